theorem nw5_7 : zNw RX5 7 4 5 [.null, .int 0, .int 0, .int 0, .int 0] := ⟨RX4, TX4, tyX4, zc4, tyX4_ok, clX5_7, is4, in4, fun j hj => match j, hj with | 0, _ => rfl | 1, _ => rfl | 2, _ => rfl | 3, _ => rfl | 4, _ => rfl | q + 5, hq => absurd hq (by omega)⟩
theorem nw5_16 : zNw RX5 16 3 3 [.int 0, .null, .null] := ⟨RX3, TX3, tyX3, zc3, tyX3_ok, clX5_16, is3, in3, fun j hj => match j, hj with | 0, _ => rfl | 1, _ => rfl | 2, _ => rfl | q + 3, hq => absurd hq (by omega)⟩
theorem nw5_26 : zNw RX5 26 0 8 [.null, .int 0, .int 0, .null, .null, .int 0, .null, .null] := ⟨RX0, TX0, tyX0, zc0, tyX0_ok, clX5_26, is0, in0, fun j hj => match j, hj with | 0, _ => rfl | 1, _ => rfl | 2, _ => rfl | 3, _ => rfl | 4, _ => rfl | 5, _ => rfl | 6, _ => rfl | 7, _ => rfl | q + 8, hq => absurd hq (by omega)⟩
theorem nw5_38 : zNw RX5 38 2 3 [.null, .int 0, .int 0] := ⟨RX2, TX2, tyX2, zc2, tyX2_ok, clX5_38, is2, in2, fun j hj => match j, hj with | 0, _ => rfl | 1, _ => rfl | 2, _ => rfl | q + 3, hq => absurd hq (by omega)⟩
theorem nw5_45 : zNw RX5 45 1 6 [.null, .int 0, .int 0, .int 0, .int 0, .int 0] := ⟨RX1, TX1, tyX1, zc1, tyX1_ok, clX5_45, is1, in1, fun j hj => match j, hj with | 0, _ => rfl | 1, _ => rfl | 2, _ => rfl | 3, _ => rfl | 4, _ => rfl | 5, _ => rfl | q + 6, hq => absurd hq (by omega)⟩
theorem nw2_9 : zNw RX2 9 0 8 [.null, .int 0, .int 0, .null, .null, .int 0, .null, .null] := ⟨RX0, TX0, tyX0, zc0, tyX0_ok, clX2_9, is0, in0, fun j hj => match j, hj with | 0, _ => rfl | 1, _ => rfl | 2, _ => rfl | 3, _ => rfl | 4, _ => rfl | 5, _ => rfl | 6, _ => rfl | 7, _ => rfl | q + 8, hq => absurd hq (by omega)⟩
theorem nw1_9 : zNw RX1 9 0 8 [.null, .int 0, .int 0, .null, .null, .int 0, .null, .null] := ⟨RX0, TX0, tyX0, zc0, tyX0_ok, clX1_9, is0, in0, fun j hj => match j, hj with | 0, _ => rfl | 1, _ => rfl | 2, _ => rfl | 3, _ => rfl | 4, _ => rfl | 5, _ => rfl | 6, _ => rfl | 7, _ => rfl | q + 8, hq => absurd hq (by omega)⟩
def E00 : ET := (0, 1, (fun _ => 0), (fun _ => 0), 0, (fun _ => 0), (fun _ => 0))
def Q00 : RG := (0, (fun _ => 0), (fun _ => 0))
def X00 : TX := (0, (fun _ => 0), 0, 0, 0)
theorem zb0 (n : Nat) : zb n (fun _ => 0) := fun _ _ => rfl
def Lo (s0 : Nat) (h0 h : hpT) : Prop := ∀ q, q < s0 → h q = h0 q
section M22
variable {l : Launch} {G : zGT} {h h0 : hpT} {sz : Nat} {Post : Option Value → hpT → Nat → Prop} {o r g x t : Nat}
theorem V_putL {own : String} {cc : ByteArray} {nL : Nat} {rt : Option FieldType} {ini : Bool} {d kc ks : Nat} {lv : List (Option Value)} {st : List Value} (pc : Nat) {idx ci j a : Nat} {fs : List Value} {v : Value} {ty : FieldType} {fin : Bool} (fs1 : List Value) (hd : decode cc pc = .ok (.putfield idx, 3)) (hf : zFp own idx ci j ty fin) (hini : fin = true → ini = true) (ha : h a = some (ob ci fs)) (hn : narrow ty v = v) (hfit : fits ty v = true) (hj : Nat.blt j fs.length = true) (hfs : fs.set j v = fs1) (kk : ∀ h1, h1 a = some (ob ci fs1) → Fr a 1 h h1 → V l G own cc nL rt ini d kc ks Post (pc + 3) lv st h1 sz) : V l G own cc nL rt ini d kc ks Post pc lv (v :: .ref a :: st) h sz := by
  subst hfs
  exact V_put pc hd hf hini ha hn hfit (Nat.le_of_ble_eq_true hj) (kk _ (hpS_self _ _ _) (Fr1 _ _ _))
set_option maxHeartbeats 1000000 in
set_option maxRecDepth 100000 in
theorem c_X3_init (hob : h r = some (ob 3 [.int 0, .null, .null])) (k : ∀ h1, RA G h1 r Q00 → Lo r h h1 → Post none h1 (r + 3)) : Cn l G yX3_init cX3_init 1 none 1 2 12 [.ref r] h (r + 1) Post := by
  refine Cn.of RX3 true (by decide) rfl (fun _ => rfl) (Nat.le_of_ble_eq_true rfl) ?_
  have f0 := hob
  have hL : Lo r h h := fun _ _ => rfl
  refine V_aload_n 0 dX3_init_0 rfl ?_
  refine V_obj 1 dX3_init_1 oiX3_3 oi_i oi_c rfl rfl ?_
  refine V_aload_n 4 dX3_init_4 rfl ?_
  refine V_iconstv 5 (0) dX3_init_5 (by decide) ?_
  refine V_putL 6 [.int 0, .null, .null] dX3_init_6 fpX3_9 (fun q => by cases q) f0 rfl rfl rfl rfl (fun h1 g0 hF => ?_)
  replace f0 := g0
  clear g0
  replace hL : Lo r h h1 := fun q hq => (hF q (by omega)).trans (hL q hq)
  clear hF
  refine V_aload_n 9 dX3_init_9 rfl ?_
  refine V_bipushv 10 (6) dX3_init_10 (by decide) ?_
  refine V_newI 12 6 dX3_init_12 arr_int (by decide) (by decide) rfl ?_
  obtain ⟨h2, eh2⟩ : ∃ z, z = hpS h1 (r + 1) (aI G 6 (fun _ => 0)) := ⟨_, rfl⟩
  have hF : Fr (r + 1) 1 h1 h2 := by rw [eh2]; exact Fr1 _ _ _
  have f1 : h2 (r + 1) = some (aI G 6 (fun _ => 0)) := by rw [eh2]; exact hpS_self _ _ _
  rw [show hpS h1 (r + 1) (aI G 6 (fun _ => 0)) = h2 from eh2.symm]
  replace f0 := (hF r (by omega)).trans f0
  replace hL : Lo r h h2 := fun q hq => (hF q (by omega)).trans (hL q hq)
  clear hF
  refine V_putL 14 [.int 0, .ref (r + 1), .null] dX3_init_14 fpX3_15 (fun _ => rfl) f0 rfl rfl rfl rfl (fun h3 g0 hF => ?_)
  replace f0 := g0
  clear g0
  replace f1 := (hF (r + 1) (by omega)).trans f1
  replace hL : Lo r h h3 := fun q hq => (hF q (by omega)).trans (hL q hq)
  clear hF
  refine V_aload_n 17 dX3_init_17 rfl ?_
  refine V_bipushv 18 (6) dX3_init_18 (by decide) ?_
  refine V_newI 20 6 dX3_init_20 arr_int (by decide) (by decide) rfl ?_
  obtain ⟨h4, eh4⟩ : ∃ z, z = hpS h3 (r + 2) (aI G 6 (fun _ => 0)) := ⟨_, rfl⟩
  have hF : Fr (r + 2) 1 h3 h4 := by rw [eh4]; exact Fr1 _ _ _
  have f2 : h4 (r + 2) = some (aI G 6 (fun _ => 0)) := by rw [eh4]; exact hpS_self _ _ _
  rw [show hpS h3 (r + 2) (aI G 6 (fun _ => 0)) = h4 from eh4.symm]
  replace f0 := (hF r (by omega)).trans f0
  replace f1 := (hF (r + 1) (by omega)).trans f1
  replace hL : Lo r h h4 := fun q hq => (hF q (by omega)).trans (hL q hq)
  clear hF
  refine V_putL 22 [.int 0, .ref (r + 1), .ref (r + 2)] dX3_init_22 fpX3_19 (fun _ => rfl) f0 rfl rfl rfl rfl (fun h5 g0 hF => ?_)
  replace f0 := g0
  clear g0
  replace f1 := (hF (r + 1) (by omega)).trans f1
  replace f2 := (hF (r + 2) (by omega)).trans f2
  replace hL : Lo r h h5 := fun q hq => (hF q (by omega)).trans (hL q hq)
  clear hF
  refine V_vret 25 dX3_init_25 ?_
  exact k _ ⟨f0, f1, f2, by decide, zb0 6, zb0 6⟩ hL
set_option maxHeartbeats 1000000 in
set_option maxRecDepth 100000 in
theorem c_X4_init (hob : h t = some (ob 4 [.null, .int 0, .int 0, .int 0, .int 0])) (k : ∀ h1, TA G h1 t X00 → Lo t h h1 → Post none h1 (t + 2)) : Cn l G yX4_init cX4_init 1 none 1 1 40 [.ref t] h (t + 1) Post := by
  refine Cn.of RX4 true (by decide) rfl (fun _ => rfl) (Nat.le_of_ble_eq_true rfl) ?_
  have f0 := hob
  have hL : Lo t h h := fun _ _ => rfl
  refine V_aload_n 0 dX4_init_0 rfl ?_
  refine V_obj 1 dX4_init_1 oiX4_3 oi_i oi_c rfl rfl ?_
  refine V_aload_n 4 dX4_init_4 rfl ?_
  refine V_bipushv 5 (40) dX4_init_5 (by decide) ?_
  refine V_newI 7 40 dX4_init_7 arr_int (by decide) (by decide) rfl ?_
  obtain ⟨h1, eh1⟩ : ∃ z, z = hpS h (t + 1) (aI G 40 (fun _ => 0)) := ⟨_, rfl⟩
  have hF : Fr (t + 1) 1 h h1 := by rw [eh1]; exact Fr1 _ _ _
  have f1 : h1 (t + 1) = some (aI G 40 (fun _ => 0)) := by rw [eh1]; exact hpS_self _ _ _
  rw [show hpS h (t + 1) (aI G 40 (fun _ => 0)) = h1 from eh1.symm]
  replace f0 := (hF t (by omega)).trans f0
  replace hL : Lo t h h1 := fun q hq => (hF q (by omega)).trans (hL q hq)
  clear hF
  refine V_putL 9 [.ref (t + 1), .int 0, .int 0, .int 0, .int 0] dX4_init_9 fpX4_9 (fun _ => rfl) f0 rfl rfl rfl rfl (fun h2 g0 hF => ?_)
  replace f0 := g0
  clear g0
  replace f1 := (hF (t + 1) (by omega)).trans f1
  replace hL : Lo t h h2 := fun q hq => (hF q (by omega)).trans (hL q hq)
  clear hF
  refine V_aload_n 12 dX4_init_12 rfl ?_
  refine V_iconstv 13 (0) dX4_init_13 (by decide) ?_
  refine V_putL 14 [.ref (t + 1), .int 0, .int 0, .int 0, .int 0] dX4_init_14 fpX4_15 (fun q => by cases q) f0 rfl rfl rfl rfl (fun h3 g0 hF => ?_)
  replace f0 := g0
  clear g0
  replace f1 := (hF (t + 1) (by omega)).trans f1
  replace hL : Lo t h h3 := fun q hq => (hF q (by omega)).trans (hL q hq)
  clear hF
  refine V_aload_n 17 dX4_init_17 rfl ?_
  refine V_iconstv 18 (0) dX4_init_18 (by decide) ?_
  refine V_putL 19 [.ref (t + 1), .int 0, .int 0, .int 0, .int 0] dX4_init_19 fpX4_19 (fun q => by cases q) f0 rfl rfl rfl rfl (fun h4 g0 hF => ?_)
  replace f0 := g0
  clear g0
  replace f1 := (hF (t + 1) (by omega)).trans f1
  replace hL : Lo t h h4 := fun q hq => (hF q (by omega)).trans (hL q hq)
  clear hF
  refine V_aload_n 22 dX4_init_22 rfl ?_
  refine V_iconstv 23 (0) dX4_init_23 (by decide) ?_
  refine V_putL 24 [.ref (t + 1), .int 0, .int 0, .int 0, .int 0] dX4_init_24 fpX4_22 (fun q => by cases q) f0 rfl rfl rfl rfl (fun h5 g0 hF => ?_)
  replace f0 := g0
  clear g0
  replace f1 := (hF (t + 1) (by omega)).trans f1
  replace hL : Lo t h h5 := fun q hq => (hF q (by omega)).trans (hL q hq)
  clear hF
  refine V_aload_n 27 dX4_init_27 rfl ?_
  refine V_iconstv 28 (0) dX4_init_28 (by decide) ?_
  refine V_putL 29 [.ref (t + 1), .int 0, .int 0, .int 0, .int 0] dX4_init_29 fpX4_25 (fun q => by cases q) f0 rfl rfl rfl rfl (fun h6 g0 hF => ?_)
  replace f0 := g0
  clear g0
  replace f1 := (hF (t + 1) (by omega)).trans f1
  replace hL : Lo t h h6 := fun q hq => (hF q (by omega)).trans (hL q hq)
  clear hF
  refine V_vret 32 dX4_init_32 ?_
  exact k _ ⟨f0, f1, by decide, by decide, by decide⟩ hL
set_option maxHeartbeats 1000000 in
set_option maxRecDepth 100000 in
theorem c_X0_init (hob : h o = some (ob 0 [.null, .int 0, .int 0, .null, .null, .int 0, .null, .null])) (k : ∀ h1, EA G h1 o r E00 → Lo o h h1 → Post none h1 (o + 5)) : Cn l G yX0_init cX0_init 2 none 1 4 134 [.ref o, .ref r] h (o + 1) Post := by
  refine Cn.of RX0 true (by decide) rfl (fun _ => rfl) (Nat.le_of_ble_eq_true rfl) ?_
  have f0 := hob
  have hL : Lo o h h := fun _ _ => rfl
  refine V_aload_n 0 dX0_init_0 rfl ?_
  refine V_obj 1 dX0_init_1 oiX0_3 oi_i oi_c rfl rfl ?_
  refine V_aload_n 4 dX0_init_4 rfl ?_
  refine V_iconstv 5 (0) dX0_init_5 (by decide) ?_
  refine V_putL 6 [.null, .int 0, .int 0, .null, .null, .int 0, .null, .null] dX0_init_6 fpX0_9 (fun q => by cases q) f0 rfl rfl rfl rfl (fun h1 g0 hF => ?_)
  replace f0 := g0
  clear g0
  replace hL : Lo o h h1 := fun q hq => (hF q (by omega)).trans (hL q hq)
  clear hF
  refine V_aload_n 9 dX0_init_9 rfl ?_
  refine V_iconstv 10 (1) dX0_init_10 (by decide) ?_
  refine V_putL 11 [.null, .int 0, .int 1, .null, .null, .int 0, .null, .null] dX0_init_11 fpX0_15 (fun q => by cases q) f0 rfl rfl rfl rfl (fun h2 g0 hF => ?_)
  replace f0 := g0
  clear g0
  replace hL : Lo o h h2 := fun q hq => (hF q (by omega)).trans (hL q hq)
  clear hF
  refine V_aload_n 14 dX0_init_14 rfl ?_
  refine V_bipushv 15 (48) dX0_init_15 (by decide) ?_
  refine V_newI 17 48 dX0_init_17 arr_int (by decide) (by decide) rfl ?_
  obtain ⟨h3, eh3⟩ : ∃ z, z = hpS h2 (o + 1) (aI G 48 (fun _ => 0)) := ⟨_, rfl⟩
  have hF : Fr (o + 1) 1 h2 h3 := by rw [eh3]; exact Fr1 _ _ _
  have f1 : h3 (o + 1) = some (aI G 48 (fun _ => 0)) := by rw [eh3]; exact hpS_self _ _ _
  rw [show hpS h2 (o + 1) (aI G 48 (fun _ => 0)) = h3 from eh3.symm]
  replace f0 := (hF o (by omega)).trans f0
  replace hL : Lo o h h3 := fun q hq => (hF q (by omega)).trans (hL q hq)
  clear hF
  refine V_putL 19 [.null, .int 0, .int 1, .ref (o + 1), .null, .int 0, .null, .null] dX0_init_19 fpX0_18 (fun _ => rfl) f0 rfl rfl rfl rfl (fun h4 g0 hF => ?_)
  replace f0 := g0
  clear g0
  replace f1 := (hF (o + 1) (by omega)).trans f1
  replace hL : Lo o h h4 := fun q hq => (hF q (by omega)).trans (hL q hq)
  clear hF
  refine V_aload_n 22 dX0_init_22 rfl ?_
  refine V_bipushv 23 (72) dX0_init_23 (by decide) ?_
  refine V_newI 25 72 dX0_init_25 arr_int (by decide) (by decide) rfl ?_
  obtain ⟨h5, eh5⟩ : ∃ z, z = hpS h4 (o + 2) (aI G 72 (fun _ => 0)) := ⟨_, rfl⟩
  have hF : Fr (o + 2) 1 h4 h5 := by rw [eh5]; exact Fr1 _ _ _
  have f2 : h5 (o + 2) = some (aI G 72 (fun _ => 0)) := by rw [eh5]; exact hpS_self _ _ _
  rw [show hpS h4 (o + 2) (aI G 72 (fun _ => 0)) = h5 from eh5.symm]
  replace f0 := (hF o (by omega)).trans f0
  replace f1 := (hF (o + 1) (by omega)).trans f1
  replace hL : Lo o h h5 := fun q hq => (hF q (by omega)).trans (hL q hq)
  clear hF
  refine V_putL 27 [.null, .int 0, .int 1, .ref (o + 1), .ref (o + 2), .int 0, .null, .null] dX0_init_27 fpX0_22 (fun _ => rfl) f0 rfl rfl rfl rfl (fun h6 g0 hF => ?_)
  replace f0 := g0
  clear g0
  replace f1 := (hF (o + 1) (by omega)).trans f1
  replace f2 := (hF (o + 2) (by omega)).trans f2
  replace hL : Lo o h h6 := fun q hq => (hF q (by omega)).trans (hL q hq)
  clear hF
  refine V_aload_n 30 dX0_init_30 rfl ?_
  refine V_iconstv 31 (0) dX0_init_31 (by decide) ?_
  refine V_putL 32 [.null, .int 0, .int 1, .ref (o + 1), .ref (o + 2), .int 0, .null, .null] dX0_init_32 fpX0_25 (fun q => by cases q) f0 rfl rfl rfl rfl (fun h7 g0 hF => ?_)
  replace f0 := g0
  clear g0
  replace f1 := (hF (o + 1) (by omega)).trans f1
  replace f2 := (hF (o + 2) (by omega)).trans f2
  replace hL : Lo o h h7 := fun q hq => (hF q (by omega)).trans (hL q hq)
  clear hF
  refine V_aload_n 35 dX0_init_35 rfl ?_
  refine V_bipushv 36 (8) dX0_init_36 (by decide) ?_
  refine V_newI 38 8 dX0_init_38 arr_int (by decide) (by decide) rfl ?_
  obtain ⟨h8, eh8⟩ : ∃ z, z = hpS h7 (o + 3) (aI G 8 (fun _ => 0)) := ⟨_, rfl⟩
  have hF : Fr (o + 3) 1 h7 h8 := by rw [eh8]; exact Fr1 _ _ _
  have f3 : h8 (o + 3) = some (aI G 8 (fun _ => 0)) := by rw [eh8]; exact hpS_self _ _ _
  rw [show hpS h7 (o + 3) (aI G 8 (fun _ => 0)) = h8 from eh8.symm]
  replace f0 := (hF o (by omega)).trans f0
  replace f1 := (hF (o + 1) (by omega)).trans f1
  replace f2 := (hF (o + 2) (by omega)).trans f2
  replace hL : Lo o h h8 := fun q hq => (hF q (by omega)).trans (hL q hq)
  clear hF
  refine V_putL 40 [.null, .int 0, .int 1, .ref (o + 1), .ref (o + 2), .int 0, .ref (o + 3), .null] dX0_init_40 fpX0_28 (fun _ => rfl) f0 rfl rfl rfl rfl (fun h9 g0 hF => ?_)
  replace f0 := g0
  clear g0
  replace f1 := (hF (o + 1) (by omega)).trans f1
  replace f2 := (hF (o + 2) (by omega)).trans f2
  replace f3 := (hF (o + 3) (by omega)).trans f3
  replace hL : Lo o h h9 := fun q hq => (hF q (by omega)).trans (hL q hq)
  clear hF
  refine V_aload_n 43 dX0_init_43 rfl ?_
  refine V_bipushv 44 (6) dX0_init_44 (by decide) ?_
  refine V_newI 46 6 dX0_init_46 arr_int (by decide) (by decide) rfl ?_
  obtain ⟨h10, eh10⟩ : ∃ z, z = hpS h9 (o + 4) (aI G 6 (fun _ => 0)) := ⟨_, rfl⟩
  have hF : Fr (o + 4) 1 h9 h10 := by rw [eh10]; exact Fr1 _ _ _
  have f4 : h10 (o + 4) = some (aI G 6 (fun _ => 0)) := by rw [eh10]; exact hpS_self _ _ _
  rw [show hpS h9 (o + 4) (aI G 6 (fun _ => 0)) = h10 from eh10.symm]
  replace f0 := (hF o (by omega)).trans f0
  replace f1 := (hF (o + 1) (by omega)).trans f1
  replace f2 := (hF (o + 2) (by omega)).trans f2
  replace f3 := (hF (o + 3) (by omega)).trans f3
  replace hL : Lo o h h10 := fun q hq => (hF q (by omega)).trans (hL q hq)
  clear hF
  refine V_putL 48 [.null, .int 0, .int 1, .ref (o + 1), .ref (o + 2), .int 0, .ref (o + 3), .ref (o + 4)] dX0_init_48 fpX0_31 (fun _ => rfl) f0 rfl rfl rfl rfl (fun h11 g0 hF => ?_)
  replace f0 := g0
  clear g0
  replace f1 := (hF (o + 1) (by omega)).trans f1
  replace f2 := (hF (o + 2) (by omega)).trans f2
  replace f3 := (hF (o + 3) (by omega)).trans f3
  replace f4 := (hF (o + 4) (by omega)).trans f4
  replace hL : Lo o h h11 := fun q hq => (hF q (by omega)).trans (hL q hq)
  clear hF
  refine V_aload_n 51 dX0_init_51 rfl ?_
  refine V_aload_n 52 dX0_init_52 rfl ?_
  refine V_putL 53 [.ref r, .int 0, .int 1, .ref (o + 1), .ref (o + 2), .int 0, .ref (o + 3), .ref (o + 4)] dX0_init_53 fpX0_34 (fun _ => rfl) f0 rfl rfl rfl rfl (fun h12 g0 hF => ?_)
  replace f0 := g0
  clear g0
  replace f1 := (hF (o + 1) (by omega)).trans f1
  replace f2 := (hF (o + 2) (by omega)).trans f2
  replace f3 := (hF (o + 3) (by omega)).trans f3
  replace f4 := (hF (o + 4) (by omega)).trans f4
  replace hL : Lo o h h12 := fun q hq => (hF q (by omega)).trans (hL q hq)
  clear hF
  refine V_vret 56 dX0_init_56 ?_
  exact k _ ⟨f0, f1, f2, f3, f4, by decide, zb0 48, zb0 72, zb0 8⟩ hL
set_option maxHeartbeats 1000000 in
set_option maxRecDepth 100000 in
theorem lp_X2_init (k : ∀ (h1 : hpT) (f : Nat → Option Nat), h1 g = some (ob 2 [.ref (g + 1), .int 0, .int 0]) → h1 (g + 1) = some (aR G 20 f) → (∀ j, j < 20 → f j = some (g + 2 + 5 * j)) → (∀ j, j < 20 → EA G h1 (g + 2 + 5 * j) r E00) → Lo g h h1 → Post none h1 (g + 2 + 5 * 20)) : ∀ (m i : Nat) (h1 : hpT) (f : Nat → Option Nat), i + m = 20 → h1 g = some (ob 2 [.ref (g + 1), .int 0, .int 0]) → h1 (g + 1) = some (aR G 20 f) → (∀ j, j < i → f j = some (g + 2 + 5 * j)) → (∀ j, j < i → EA G h1 (g + 2 + 5 * j) r E00) → Lo g h h1 → V l G RX2 cX2_init 3 none true 2 (5 * m) (142 * m) Post 25 [some (.ref g), some (.ref r), some (.int (nI i))] [] h1 (g + 2 + 5 * i) := by
  intro m
  induction m using Nat.strongRecOn with
  | ind m ih0 =>
  have ih : ∀ (z : Nat), z < m → _ := fun z hz => ih0 z hz
  intro i h1 f hi f0 f1 hf fe hL
  refine V_iload_n 25 dX2_init_25 rfl ?_
  refine V_bipushv 26 (20) dX2_init_26 (by decide) ?_
  refine V_icmp_ge 28 51 dX2_init_28 rfl (fun c_28 => ?_) (fun c_28 => ?_)
  · have e_c : i = 20 := by
      have := (nI_leI (a := 20) (by decide) (by omega)).mp c_28
      omega
    refine V_vret 51 dX2_init_51 ?_
    subst e_c
    exact k h1 f f0 f1 hf fe hL
  · have e_c : i < 20 := Nat.lt_of_not_le (fun q => c_28 (nI_le (a := 20) q (by omega)))
    obtain ⟨m, rfl⟩ : ∃ z, m = z + 1 := ⟨m - 1, by omega⟩
    refine V_bud (kc := 5 * m + 4 + 1) (ks := 142 * m + 134 + 8) (by omega) (by omega) ?_
    refine V_aload_n 31 dX2_init_31 rfl ?_
    refine V_get 32 dX2_init_32 fdX2_11 (by first | exact f0 | exact f1) rfl ?_
    refine V_iload_n 35 dX2_init_35 rfl ?_
    refine V_new 36 dX2_init_36 nw2_9 ?_
    obtain ⟨h2, eh2⟩ : ∃ z, z = hpS h1 (g + 2 + 5 * i) (ob 0 [.null, .int 0, .int 0, .null, .null, .int 0, .null, .null]) := ⟨_, rfl⟩
    have hF : Fr (g + 2 + 5 * i) 1 h1 h2 := by rw [eh2]; exact Fr1 _ _ _
    have g0 : h2 (g + 2 + 5 * i) = some (ob 0 [.null, .int 0, .int 0, .null, .null, .int 0, .null, .null]) := by rw [eh2]; exact hpS_self _ _ _
    rw [show hpS h1 (g + 2 + 5 * i) (ob 0 [.null, .int 0, .int 0, .null, .null, .int 0, .null, .null]) = h2 from eh2.symm]
    clear eh2
    refine V_dupr 39 dX2_init_39 ?_
    refine V_aload_n 40 dX2_init_40 rfl ?_
    refine V_callI (kc1 := 4) (ks1 := 134) (kc := 5 * m) (ks := 142 * m) 41 (As := [.ref r]) dX2_init_41 kiX2_24 rfl rfl rfl rfl (c_X0_init g0 (fun h3 hE hL3 => ?_))
    replace f0 := (hL3 g (by omega)).trans ((hF g (by omega)).trans f0)
    replace f1 := (hL3 (g + 1) (by omega)).trans ((hF (g + 1) (by omega)).trans f1)
    replace fe : ∀ j, j < i → EA G h3 (g + 2 + 5 * j) r E00 := fun j hj => ((fe j hj).fr hF (by omega)).frP (P := fun a => g + 2 + 5 * i ≤ a) (fun a ha => hL3 a (by omega)) (fun a h1 h2 => by omega)
    replace hL : Lo g h h3 := fun q hq => (hL3 q (by omega)).trans ((hF q (by omega)).trans (hL q hq))
    clear hL3 hF
    refine V_aast 44 dX2_init_44 f1 hE.1 (vp_in_nI e_c (by decide)) ?_
    rw [nI_clamp (by omega)]
    obtain ⟨h4, eh4⟩ : ∃ z, z = hpS h3 (g + 1) (aR G 20 (va_up f i (some (g + 2 + 5 * i)))) := ⟨_, rfl⟩
    have hF : Fr (g + 1) 1 h3 h4 := by rw [eh4]; exact Fr1 _ _ _
    replace f1 : h4 (g + 1) = some (aR G 20 (va_up f i (some (g + 2 + 5 * i)))) := by rw [eh4]; exact hpS_self _ _ _
    rw [show hpS h3 (g + 1) (aR G 20 (va_up f i (some (g + 2 + 5 * i)))) = h4 from eh4.symm]
    clear eh4
    replace f0 := (hF g (by omega)).trans f0
    replace hE := hE.fr hF (by omega)
    replace fe : ∀ j, j < i + 1 → EA G h4 (g + 2 + 5 * j) r E00 := fun j hj => by
      rcases Nat.lt_or_ge j i with q | q
      · exact (fe j q).fr hF (by omega)
      · rw [show j = i by omega]; exact hE
    replace hf : ∀ j, j < i + 1 → va_up f i (some (g + 2 + 5 * i)) j = some (g + 2 + 5 * j) := fun j hj => by
      by_cases q : j = i
      · rw [q, va_up_self]
      · rw [va_up_ne _ _ q]; exact hf j (by omega)
    replace hL : Lo g h h4 := fun q hq => (hF q (by omega)).trans (hL q hq)
    refine V_iinc 45 (nI (i + 1)) dX2_init_45 rfl (nI_inc i) rfl rfl ?_
    refine V_goto 48 25 dX2_init_48 rfl ?_
    exact ih m (by omega) (i + 1) h4 _ (by omega) f0 f1 hf fe hL
set_option maxHeartbeats 1000000 in
set_option maxRecDepth 100000 in
theorem lp_X1_init (k : ∀ (h1 : hpT) (f : Nat → Option Nat), h1 g = some (ob 1 [.ref (g + 1), .int 0, .int 0, .int 0, .int 0, .int 0]) → h1 (g + 1) = some (aR G 3 f) → (∀ j, j < 3 → f j = some (g + 2 + 5 * j)) → (∀ j, j < 3 → EA G h1 (g + 2 + 5 * j) r E00) → Lo g h h1 → Post none h1 (g + 2 + 5 * 3)) : ∀ (m i : Nat) (h1 : hpT) (f : Nat → Option Nat), i + m = 3 → h1 g = some (ob 1 [.ref (g + 1), .int 0, .int 0, .int 0, .int 0, .int 0]) → h1 (g + 1) = some (aR G 3 f) → (∀ j, j < i → f j = some (g + 2 + 5 * j)) → (∀ j, j < i → EA G h1 (g + 2 + 5 * j) r E00) → Lo g h h1 → V l G RX1 cX1_init 3 none true 2 (5 * m) (142 * m) Post 39 [some (.ref g), some (.ref r), some (.int (nI i))] [] h1 (g + 2 + 5 * i) := by
  intro m
  induction m using Nat.strongRecOn with
  | ind m ih0 =>
  have ih : ∀ (z : Nat), z < m → _ := fun z hz => ih0 z hz
  intro i h1 f hi f0 f1 hf fe hL
  refine V_iload_n 39 dX1_init_39 rfl ?_
  refine V_iconstv 40 (3) dX1_init_40 (by decide) ?_
  refine V_icmp_ge 41 64 dX1_init_41 rfl (fun c_41 => ?_) (fun c_41 => ?_)
  · have e_c : i = 3 := by
      have := (nI_leI (a := 3) (by decide) (by omega)).mp c_41
      omega
    refine V_vret 64 dX1_init_64 ?_
    subst e_c
    exact k h1 f f0 f1 hf fe hL
  · have e_c : i < 3 := Nat.lt_of_not_le (fun q => c_41 (nI_le (a := 3) q (by omega)))
    obtain ⟨m, rfl⟩ : ∃ z, m = z + 1 := ⟨m - 1, by omega⟩
    refine V_bud (kc := 5 * m + 4 + 1) (ks := 142 * m + 134 + 8) (by omega) (by omega) ?_
    refine V_aload_n 44 dX1_init_44 rfl ?_
    refine V_get 45 dX1_init_45 fdX1_11 (by first | exact f0 | exact f1) rfl ?_
    refine V_iload_n 48 dX1_init_48 rfl ?_
    refine V_new 49 dX1_init_49 nw1_9 ?_
    obtain ⟨h2, eh2⟩ : ∃ z, z = hpS h1 (g + 2 + 5 * i) (ob 0 [.null, .int 0, .int 0, .null, .null, .int 0, .null, .null]) := ⟨_, rfl⟩
    have hF : Fr (g + 2 + 5 * i) 1 h1 h2 := by rw [eh2]; exact Fr1 _ _ _
    have g0 : h2 (g + 2 + 5 * i) = some (ob 0 [.null, .int 0, .int 0, .null, .null, .int 0, .null, .null]) := by rw [eh2]; exact hpS_self _ _ _
    rw [show hpS h1 (g + 2 + 5 * i) (ob 0 [.null, .int 0, .int 0, .null, .null, .int 0, .null, .null]) = h2 from eh2.symm]
    clear eh2
    refine V_dupr 52 dX1_init_52 ?_
    refine V_aload_n 53 dX1_init_53 rfl ?_
    refine V_callI (kc1 := 4) (ks1 := 134) (kc := 5 * m) (ks := 142 * m) 54 (As := [.ref r]) dX1_init_54 kiX1_33 rfl rfl rfl rfl (c_X0_init g0 (fun h3 hE hL3 => ?_))
    replace f0 := (hL3 g (by omega)).trans ((hF g (by omega)).trans f0)
    replace f1 := (hL3 (g + 1) (by omega)).trans ((hF (g + 1) (by omega)).trans f1)
    replace fe : ∀ j, j < i → EA G h3 (g + 2 + 5 * j) r E00 := fun j hj => ((fe j hj).fr hF (by omega)).frP (P := fun a => g + 2 + 5 * i ≤ a) (fun a ha => hL3 a (by omega)) (fun a h1 h2 => by omega)
    replace hL : Lo g h h3 := fun q hq => (hL3 q (by omega)).trans ((hF q (by omega)).trans (hL q hq))
    clear hL3 hF
    refine V_aast 57 dX1_init_57 f1 hE.1 (vp_in_nI e_c (by decide)) ?_
    rw [nI_clamp (by omega)]
    obtain ⟨h4, eh4⟩ : ∃ z, z = hpS h3 (g + 1) (aR G 3 (va_up f i (some (g + 2 + 5 * i)))) := ⟨_, rfl⟩
    have hF : Fr (g + 1) 1 h3 h4 := by rw [eh4]; exact Fr1 _ _ _
    replace f1 : h4 (g + 1) = some (aR G 3 (va_up f i (some (g + 2 + 5 * i)))) := by rw [eh4]; exact hpS_self _ _ _
    rw [show hpS h3 (g + 1) (aR G 3 (va_up f i (some (g + 2 + 5 * i)))) = h4 from eh4.symm]
    clear eh4
    replace f0 := (hF g (by omega)).trans f0
    replace hE := hE.fr hF (by omega)
    replace fe : ∀ j, j < i + 1 → EA G h4 (g + 2 + 5 * j) r E00 := fun j hj => by
      rcases Nat.lt_or_ge j i with q | q
      · exact (fe j q).fr hF (by omega)
      · rw [show j = i by omega]; exact hE
    replace hf : ∀ j, j < i + 1 → va_up f i (some (g + 2 + 5 * i)) j = some (g + 2 + 5 * j) := fun j hj => by
      by_cases q : j = i
      · rw [q, va_up_self]
      · rw [va_up_ne _ _ q]; exact hf j (by omega)
    replace hL : Lo g h h4 := fun q hq => (hF q (by omega)).trans (hL q hq)
    refine V_iinc 58 (nI (i + 1)) dX1_init_58 rfl (nI_inc i) rfl rfl ?_
    refine V_goto 61 39 dX1_init_61 rfl ?_
    exact ih m (by omega) (i + 1) h4 _ (by omega) f0 f1 hf fe hL
set_option maxHeartbeats 1000000 in
set_option maxRecDepth 100000 in
theorem c_X2_init (hob : h g = some (ob 2 [.null, .int 0, .int 0])) (k : ∀ h1, HS G h1 g r 0 0 (fun _ => E00) → Lo g h h1 → Post none h1 (g + 102)) : Cn l G yX2_init cX2_init 3 none 2 101 2860 [.ref g, .ref r] h (g + 1) Post := by
  refine Cn.of RX2 true (by decide) rfl (fun _ => rfl) (Nat.le_of_ble_eq_true rfl) ?_
  have f0 := hob
  have hL : Lo g h h := fun _ _ => rfl
  refine V_bud (kc := 5 * 20 + 1) (ks := 142 * 20 + 20) (by decide) (by decide) ?_
  refine V_aload_n 0 dX2_init_0 rfl ?_
  refine V_obj 1 dX2_init_1 oiX2_3 oi_i oi_c rfl rfl ?_
  refine V_aload_n 4 dX2_init_4 rfl ?_
  refine V_bipushv 5 (20) dX2_init_5 (by decide) ?_
  refine V_newR 7 20 dX2_init_7 clX2_9 (by decide) (by decide) rfl ?_
  obtain ⟨h1, eh1⟩ : ∃ z, z = hpS h (g + 1) (aR G 20 (fun _ => none)) := ⟨_, rfl⟩
  have hF : Fr (g + 1) 1 h h1 := by rw [eh1]; exact Fr1 _ _ _
  have f1 : h1 (g + 1) = some (aR G 20 (fun _ => none)) := by rw [eh1]; exact hpS_self _ _ _
  rw [show hpS h (g + 1) (aR G 20 (fun _ => none)) = h1 from eh1.symm]
  replace f0 := (hF g (by omega)).trans f0
  replace hL : Lo g h h1 := fun q hq => hF q (by omega)
  clear hF eh1
  refine V_putL 10 [.ref (g + 1), .int 0, .int 0] dX2_init_10 fpX2_11 (fun _ => rfl) f0 rfl rfl rfl rfl (fun h2 g0 hF => ?_)
  replace f0 := g0
  clear g0
  replace f1 := (hF (g + 1) (by omega)).trans f1
  replace hL : Lo g h h2 := fun q hq => (hF q (by omega)).trans (hL q hq)
  clear hF
  refine V_aload_n 13 dX2_init_13 rfl ?_
  refine V_iconstv 14 (0) dX2_init_14 (by decide) ?_
  refine V_putL 15 [.ref (g + 1), .int 0, .int 0] dX2_init_15 fpX2_17 (fun q => by cases q) f0 rfl rfl rfl rfl (fun h3 g0 hF => ?_)
  replace f0 := g0
  clear g0
  replace f1 := (hF (g + 1) (by omega)).trans f1
  replace hL : Lo g h h3 := fun q hq => (hF q (by omega)).trans (hL q hq)
  clear hF
  refine V_aload_n 18 dX2_init_18 rfl ?_
  refine V_iconstv 19 (0) dX2_init_19 (by decide) ?_
  refine V_putL 20 [.ref (g + 1), .int 0, .int 0] dX2_init_20 fpX2_21 (fun q => by cases q) f0 rfl rfl rfl rfl (fun h4 g0 hF => ?_)
  replace f0 := g0
  clear g0
  replace f1 := (hF (g + 1) (by omega)).trans f1
  replace hL : Lo g h h4 := fun q hq => (hF q (by omega)).trans (hL q hq)
  clear hF
  refine V_iconstv 23 (0) dX2_init_23 (by decide) ?_
  refine V_istore_n 24 dX2_init_24 rfl rfl ?_
  refine lp_X2_init (fun h9 f f0 f1 hf fe hL => ?_) 20 0 h4 _ (by omega) f0 f1 (fun j hj => absurd hj (Nat.not_lt_zero j)) (fun j hj => absurd hj (Nat.not_lt_zero j)) hL
  exact k h9 ⟨f0, ⟨f, f1, hf⟩, fe, by decide, by decide⟩ hL
set_option maxHeartbeats 1000000 in
set_option maxRecDepth 100000 in
theorem c_X1_init (hob : h g = some (ob 1 [.null, .int 0, .int 0, .int 0, .int 0, .int 0])) (k : ∀ h1, FS G h1 g r ((0, 0, 0, 0, 0), (fun _ => E00)) → Lo g h h1 → Post none h1 (g + 17)) : Cn l G yX1_init cX1_init 3 none 2 16 429 [.ref g, .ref r] h (g + 1) Post := by
  refine Cn.of RX1 true (by decide) rfl (fun _ => rfl) (Nat.le_of_ble_eq_true rfl) ?_
  have f0 := hob
  have hL : Lo g h h := fun _ _ => rfl
  refine V_bud (kc := 5 * 3 + 1) (ks := 142 * 3 + 3) (by decide) (by decide) ?_
  refine V_aload_n 0 dX1_init_0 rfl ?_
  refine V_obj 1 dX1_init_1 oiX1_3 oi_i oi_c rfl rfl ?_
  refine V_aload_n 4 dX1_init_4 rfl ?_
  refine V_iconstv 5 (3) dX1_init_5 (by decide) ?_
  refine V_newR 6 3 dX1_init_6 clX1_9 (by decide) (by decide) rfl ?_
  obtain ⟨h1, eh1⟩ : ∃ z, z = hpS h (g + 1) (aR G 3 (fun _ => none)) := ⟨_, rfl⟩
  have hF : Fr (g + 1) 1 h h1 := by rw [eh1]; exact Fr1 _ _ _
  have f1 : h1 (g + 1) = some (aR G 3 (fun _ => none)) := by rw [eh1]; exact hpS_self _ _ _
  rw [show hpS h (g + 1) (aR G 3 (fun _ => none)) = h1 from eh1.symm]
  replace f0 := (hF g (by omega)).trans f0
  replace hL : Lo g h h1 := fun q hq => hF q (by omega)
  clear hF eh1
  refine V_putL 9 [.ref (g + 1), .int 0, .int 0, .int 0, .int 0, .int 0] dX1_init_9 fpX1_11 (fun _ => rfl) f0 rfl rfl rfl rfl (fun h2 g0 hF => ?_)
  replace f0 := g0
  clear g0
  replace f1 := (hF (g + 1) (by omega)).trans f1
  replace hL : Lo g h h2 := fun q hq => (hF q (by omega)).trans (hL q hq)
  clear hF
  refine V_aload_n 12 dX1_init_12 rfl ?_
  refine V_iconstv 13 (0) dX1_init_13 (by decide) ?_
  refine V_putL 14 [.ref (g + 1), .int 0, .int 0, .int 0, .int 0, .int 0] dX1_init_14 fpX1_17 (fun q => by cases q) f0 rfl rfl rfl rfl (fun h3 g0 hF => ?_)
  replace f0 := g0
  clear g0
  replace f1 := (hF (g + 1) (by omega)).trans f1
  replace hL : Lo g h h3 := fun q hq => (hF q (by omega)).trans (hL q hq)
  clear hF
  refine V_aload_n 17 dX1_init_17 rfl ?_
  refine V_iconstv 18 (0) dX1_init_18 (by decide) ?_
  refine V_putL 19 [.ref (g + 1), .int 0, .int 0, .int 0, .int 0, .int 0] dX1_init_19 fpX1_21 (fun q => by cases q) f0 rfl rfl rfl rfl (fun h4 g0 hF => ?_)
  replace f0 := g0
  clear g0
  replace f1 := (hF (g + 1) (by omega)).trans f1
  replace hL : Lo g h h4 := fun q hq => (hF q (by omega)).trans (hL q hq)
  clear hF
  refine V_aload_n 22 dX1_init_22 rfl ?_
  refine V_iconstv 23 (0) dX1_init_23 (by decide) ?_
  refine V_putL 24 [.ref (g + 1), .int 0, .int 0, .int 0, .int 0, .int 0] dX1_init_24 fpX1_24 (fun q => by cases q) f0 rfl rfl rfl rfl (fun h5 g0 hF => ?_)
  replace f0 := g0
  clear g0
  replace f1 := (hF (g + 1) (by omega)).trans f1
  replace hL : Lo g h h5 := fun q hq => (hF q (by omega)).trans (hL q hq)
  clear hF
  refine V_aload_n 27 dX1_init_27 rfl ?_
  refine V_iconstv 28 (0) dX1_init_28 (by decide) ?_
  refine V_putL 29 [.ref (g + 1), .int 0, .int 0, .int 0, .int 0, .int 0] dX1_init_29 fpX1_27 (fun q => by cases q) f0 rfl rfl rfl rfl (fun h6 g0 hF => ?_)
  replace f0 := g0
  clear g0
  replace f1 := (hF (g + 1) (by omega)).trans f1
  replace hL : Lo g h h6 := fun q hq => (hF q (by omega)).trans (hL q hq)
  clear hF
  refine V_aload_n 32 dX1_init_32 rfl ?_
  refine V_iconstv 33 (0) dX1_init_33 (by decide) ?_
  refine V_putL 34 [.ref (g + 1), .int 0, .int 0, .int 0, .int 0, .int 0] dX1_init_34 fpX1_30 (fun q => by cases q) f0 rfl rfl rfl rfl (fun h7 g0 hF => ?_)
  replace f0 := g0
  clear g0
  replace f1 := (hF (g + 1) (by omega)).trans f1
  replace hL : Lo g h h7 := fun q hq => (hF q (by omega)).trans (hL q hq)
  clear hF
  refine V_iconstv 37 (0) dX1_init_37 (by decide) ?_
  refine V_istore_n 38 dX1_init_38 rfl rfl ?_
  refine lp_X1_init (fun h9 f f0 f1 hf fe hL => ?_) 3 0 h7 _ (by omega) f0 f1 (fun j hj => absurd hj (Nat.not_lt_zero j)) (fun j hj => absurd hj (Nat.not_lt_zero j)) hL
  exact k h9 ⟨f0, ⟨f, f1, hf⟩, fe⟩ hL
end M22
