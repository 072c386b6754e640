def M00 : MT := ((fun _ => 0), 0, (fun _ _ => 0), (fun _ _ => 0))
section M46
variable {l : Launch} {G : zGT} {h h0 : hpT} {sz : Nat} {Post : Option Value → hpT → Nat → Prop} {m r : Nat} {M M0 : MT} {Q : RG} {E : ET}
set_option maxHeartbeats 4000000 in
set_option maxRecDepth 100000 in
theorem c_X6_init (hob : h m = some (ob 6 [.int 0, .null, .null, .null, .int 0, .int 0, .int 0, .int 0, .int 0, .int 0, .int 0, .int 0, .long 0, .null, .int 0, .int 0, .int 0, .int 0, .int 0, .int 0, .int 0, .null, .null, .int 0, .int 0, .int 0, .int 0, .null, .null, .null, .null])) (k : ∀ h1, MA G h1 m M00 → Lo m h h1 → Post none h1 (m + 11)) : Cn l G yX6_init cX6_init 1 none 1 10 4286 [.ref m] h (m + 1) Post := by
  refine Cn.of RX6 true (by decide) rfl (fun _ => rfl) (Nat.le_of_ble_eq_true rfl) ?_
  have f0 := hob
  have hL : Lo m h h := fun _ _ => rfl
  refine V_aload_n 0 dX6_init_0 rfl ?_
  refine V_obj 1 dX6_init_1 oiX6_1 oi_i oi_c rfl rfl ?_
  refine V_aload_n 4 dX6_init_4 rfl ?_
  refine V_bipushv 5 (6) dX6_init_5 (by decide) ?_
  refine V_newI 7 6 dX6_init_7 arr_int (by decide) (by decide) rfl ?_
  obtain ⟨h1, eh1⟩ : ∃ z, z = hpS h (m + 1) (aI G 6 (fun _ => 0)) := ⟨_, rfl⟩
  have hF : Fr (m + 1) 1 h h1 := by rw [eh1]; exact Fr1 _ _ _
  have f1 : h1 (m + 1) = some (aI G 6 (fun _ => 0)) := by rw [eh1]; exact hpS_self _ _ _
  rw [show hpS h (m + 1) (aI G 6 (fun _ => 0)) = h1 from eh1.symm]
  replace f0 := (hF m (by omega)).trans f0
  replace hL : Lo m h h1 := fun q hq => (hF q (by omega)).trans (hL q hq)
  clear hF
  refine V_putL 9 [.int 0, .ref (m + 1), .null, .null, .int 0, .int 0, .int 0, .int 0, .int 0, .int 0, .int 0, .int 0, .long 0, .null, .int 0, .int 0, .int 0, .int 0, .int 0, .int 0, .int 0, .null, .null, .int 0, .int 0, .int 0, .int 0, .null, .null, .null, .null] dX6_init_9 fpX6_7 (fun _ => rfl) f0 rfl rfl rfl rfl (fun h2 g0 hF => ?_)
  replace f0 := g0
  clear g0
  replace f1 := (hF (m + 1) (by omega)).trans f1
  replace hL : Lo m h h2 := fun q hq => (hF q (by omega)).trans (hL q hq)
  clear hF
  refine V_aload_n 12 dX6_init_12 rfl ?_
  refine V_bipushv 13 (6) dX6_init_13 (by decide) ?_
  refine V_newI 15 6 dX6_init_15 arr_int (by decide) (by decide) rfl ?_
  obtain ⟨h3, eh3⟩ : ∃ z, z = hpS h2 (m + 2) (aI G 6 (fun _ => 0)) := ⟨_, rfl⟩
  have hF : Fr (m + 2) 1 h2 h3 := by rw [eh3]; exact Fr1 _ _ _
  have f2 : h3 (m + 2) = some (aI G 6 (fun _ => 0)) := by rw [eh3]; exact hpS_self _ _ _
  rw [show hpS h2 (m + 2) (aI G 6 (fun _ => 0)) = h3 from eh3.symm]
  replace f0 := (hF m (by omega)).trans f0
  replace f1 := (hF (m + 1) (by omega)).trans f1
  replace hL : Lo m h h3 := fun q hq => (hF q (by omega)).trans (hL q hq)
  clear hF
  refine V_putL 17 [.int 0, .ref (m + 1), .ref (m + 2), .null, .int 0, .int 0, .int 0, .int 0, .int 0, .int 0, .int 0, .int 0, .long 0, .null, .int 0, .int 0, .int 0, .int 0, .int 0, .int 0, .int 0, .null, .null, .int 0, .int 0, .int 0, .int 0, .null, .null, .null, .null] dX6_init_17 fpX6_13 (fun _ => rfl) f0 rfl rfl rfl rfl (fun h4 g0 hF => ?_)
  replace f0 := g0
  clear g0
  replace f1 := (hF (m + 1) (by omega)).trans f1
  replace f2 := (hF (m + 2) (by omega)).trans f2
  replace hL : Lo m h h4 := fun q hq => (hF q (by omega)).trans (hL q hq)
  clear hF
  refine V_aload_n 20 dX6_init_20 rfl ?_
  refine V_sipushv 21 (4200) dX6_init_21 (by decide) ?_
  refine V_newI 24 4200 dX6_init_24 arr_int (by decide) (by decide) rfl ?_
  obtain ⟨h5, eh5⟩ : ∃ z, z = hpS h4 (m + 3) (aI G 4200 (fun _ => 0)) := ⟨_, rfl⟩
  have hF : Fr (m + 3) 1 h4 h5 := by rw [eh5]; exact Fr1 _ _ _
  have f3 : h5 (m + 3) = some (aI G 4200 (fun _ => 0)) := by rw [eh5]; exact hpS_self _ _ _
  rw [show hpS h4 (m + 3) (aI G 4200 (fun _ => 0)) = h5 from eh5.symm]
  replace f0 := (hF m (by omega)).trans f0
  replace f1 := (hF (m + 1) (by omega)).trans f1
  replace f2 := (hF (m + 2) (by omega)).trans f2
  replace hL : Lo m h h5 := fun q hq => (hF q (by omega)).trans (hL q hq)
  clear hF
  refine V_putL 26 [.int 0, .ref (m + 1), .ref (m + 2), .ref (m + 3), .int 0, .int 0, .int 0, .int 0, .int 0, .int 0, .int 0, .int 0, .long 0, .null, .int 0, .int 0, .int 0, .int 0, .int 0, .int 0, .int 0, .null, .null, .int 0, .int 0, .int 0, .int 0, .null, .null, .null, .null] dX6_init_26 fpX6_16 (fun _ => rfl) f0 rfl rfl rfl rfl (fun h6 g0 hF => ?_)
  replace f0 := g0
  clear g0
  replace f1 := (hF (m + 1) (by omega)).trans f1
  replace f2 := (hF (m + 2) (by omega)).trans f2
  replace f3 := (hF (m + 3) (by omega)).trans f3
  replace hL : Lo m h h6 := fun q hq => (hF q (by omega)).trans (hL q hq)
  clear hF
  refine V_aload_n 29 dX6_init_29 rfl ?_
  refine V_bipushv 30 (40) dX6_init_30 (by decide) ?_
  refine V_newI 32 40 dX6_init_32 arr_int (by decide) (by decide) rfl ?_
  obtain ⟨h7, eh7⟩ : ∃ z, z = hpS h6 (m + 4) (aI G 40 (fun _ => 0)) := ⟨_, rfl⟩
  have hF : Fr (m + 4) 1 h6 h7 := by rw [eh7]; exact Fr1 _ _ _
  have f4 : h7 (m + 4) = some (aI G 40 (fun _ => 0)) := by rw [eh7]; exact hpS_self _ _ _
  rw [show hpS h6 (m + 4) (aI G 40 (fun _ => 0)) = h7 from eh7.symm]
  replace f0 := (hF m (by omega)).trans f0
  replace f1 := (hF (m + 1) (by omega)).trans f1
  replace f2 := (hF (m + 2) (by omega)).trans f2
  replace f3 := (hF (m + 3) (by omega)).trans f3
  replace hL : Lo m h h7 := fun q hq => (hF q (by omega)).trans (hL q hq)
  clear hF
  refine V_putL 34 [.int 0, .ref (m + 1), .ref (m + 2), .ref (m + 3), .int 0, .int 0, .int 0, .int 0, .int 0, .int 0, .int 0, .int 0, .long 0, .ref (m + 4), .int 0, .int 0, .int 0, .int 0, .int 0, .int 0, .int 0, .null, .null, .int 0, .int 0, .int 0, .int 0, .null, .null, .null, .null] dX6_init_34 fpX6_19 (fun _ => rfl) f0 rfl rfl rfl rfl (fun h8 g0 hF => ?_)
  replace f0 := g0
  clear g0
  replace f1 := (hF (m + 1) (by omega)).trans f1
  replace f2 := (hF (m + 2) (by omega)).trans f2
  replace f3 := (hF (m + 3) (by omega)).trans f3
  replace f4 := (hF (m + 4) (by omega)).trans f4
  replace hL : Lo m h h8 := fun q hq => (hF q (by omega)).trans (hL q hq)
  clear hF
  refine V_aload_n 37 dX6_init_37 rfl ?_
  refine V_bipushv 38 (6) dX6_init_38 (by decide) ?_
  refine V_newI 40 6 dX6_init_40 arr_int (by decide) (by decide) rfl ?_
  obtain ⟨h9, eh9⟩ : ∃ z, z = hpS h8 (m + 5) (aI G 6 (fun _ => 0)) := ⟨_, rfl⟩
  have hF : Fr (m + 5) 1 h8 h9 := by rw [eh9]; exact Fr1 _ _ _
  have f5 : h9 (m + 5) = some (aI G 6 (fun _ => 0)) := by rw [eh9]; exact hpS_self _ _ _
  rw [show hpS h8 (m + 5) (aI G 6 (fun _ => 0)) = h9 from eh9.symm]
  replace f0 := (hF m (by omega)).trans f0
  replace f1 := (hF (m + 1) (by omega)).trans f1
  replace f2 := (hF (m + 2) (by omega)).trans f2
  replace f3 := (hF (m + 3) (by omega)).trans f3
  replace f4 := (hF (m + 4) (by omega)).trans f4
  replace hL : Lo m h h9 := fun q hq => (hF q (by omega)).trans (hL q hq)
  clear hF
  refine V_putL 42 [.int 0, .ref (m + 1), .ref (m + 2), .ref (m + 3), .int 0, .int 0, .int 0, .int 0, .int 0, .int 0, .int 0, .int 0, .long 0, .ref (m + 4), .int 0, .int 0, .int 0, .int 0, .int 0, .int 0, .int 0, .ref (m + 5), .null, .int 0, .int 0, .int 0, .int 0, .null, .null, .null, .null] dX6_init_42 fpX6_22 (fun _ => rfl) f0 rfl rfl rfl rfl (fun h10 g0 hF => ?_)
  replace f0 := g0
  clear g0
  replace f1 := (hF (m + 1) (by omega)).trans f1
  replace f2 := (hF (m + 2) (by omega)).trans f2
  replace f3 := (hF (m + 3) (by omega)).trans f3
  replace f4 := (hF (m + 4) (by omega)).trans f4
  replace f5 := (hF (m + 5) (by omega)).trans f5
  replace hL : Lo m h h10 := fun q hq => (hF q (by omega)).trans (hL q hq)
  clear hF
  refine V_aload_n 45 dX6_init_45 rfl ?_
  refine V_bipushv 46 (6) dX6_init_46 (by decide) ?_
  refine V_newI 48 6 dX6_init_48 arr_int (by decide) (by decide) rfl ?_
  obtain ⟨h11, eh11⟩ : ∃ z, z = hpS h10 (m + 6) (aI G 6 (fun _ => 0)) := ⟨_, rfl⟩
  have hF : Fr (m + 6) 1 h10 h11 := by rw [eh11]; exact Fr1 _ _ _
  have f6 : h11 (m + 6) = some (aI G 6 (fun _ => 0)) := by rw [eh11]; exact hpS_self _ _ _
  rw [show hpS h10 (m + 6) (aI G 6 (fun _ => 0)) = h11 from eh11.symm]
  replace f0 := (hF m (by omega)).trans f0
  replace f1 := (hF (m + 1) (by omega)).trans f1
  replace f2 := (hF (m + 2) (by omega)).trans f2
  replace f3 := (hF (m + 3) (by omega)).trans f3
  replace f4 := (hF (m + 4) (by omega)).trans f4
  replace f5 := (hF (m + 5) (by omega)).trans f5
  replace hL : Lo m h h11 := fun q hq => (hF q (by omega)).trans (hL q hq)
  clear hF
  refine V_putL 50 [.int 0, .ref (m + 1), .ref (m + 2), .ref (m + 3), .int 0, .int 0, .int 0, .int 0, .int 0, .int 0, .int 0, .int 0, .long 0, .ref (m + 4), .int 0, .int 0, .int 0, .int 0, .int 0, .int 0, .int 0, .ref (m + 5), .ref (m + 6), .int 0, .int 0, .int 0, .int 0, .null, .null, .null, .null] dX6_init_50 fpX6_25 (fun _ => rfl) f0 rfl rfl rfl rfl (fun h12 g0 hF => ?_)
  replace f0 := g0
  clear g0
  replace f1 := (hF (m + 1) (by omega)).trans f1
  replace f2 := (hF (m + 2) (by omega)).trans f2
  replace f3 := (hF (m + 3) (by omega)).trans f3
  replace f4 := (hF (m + 4) (by omega)).trans f4
  replace f5 := (hF (m + 5) (by omega)).trans f5
  replace f6 := (hF (m + 6) (by omega)).trans f6
  replace hL : Lo m h h12 := fun q hq => (hF q (by omega)).trans (hL q hq)
  clear hF
  refine V_aload_n 53 dX6_init_53 rfl ?_
  refine V_iconstv 54 (4) dX6_init_54 (by decide) ?_
  refine V_newI 55 4 dX6_init_55 arr_int (by decide) (by decide) rfl ?_
  obtain ⟨h13, eh13⟩ : ∃ z, z = hpS h12 (m + 7) (aI G 4 (fun _ => 0)) := ⟨_, rfl⟩
  have hF : Fr (m + 7) 1 h12 h13 := by rw [eh13]; exact Fr1 _ _ _
  have f7 : h13 (m + 7) = some (aI G 4 (fun _ => 0)) := by rw [eh13]; exact hpS_self _ _ _
  rw [show hpS h12 (m + 7) (aI G 4 (fun _ => 0)) = h13 from eh13.symm]
  replace f0 := (hF m (by omega)).trans f0
  replace f1 := (hF (m + 1) (by omega)).trans f1
  replace f2 := (hF (m + 2) (by omega)).trans f2
  replace f3 := (hF (m + 3) (by omega)).trans f3
  replace f4 := (hF (m + 4) (by omega)).trans f4
  replace f5 := (hF (m + 5) (by omega)).trans f5
  replace f6 := (hF (m + 6) (by omega)).trans f6
  replace hL : Lo m h h13 := fun q hq => (hF q (by omega)).trans (hL q hq)
  clear hF
  refine V_putL 57 [.int 0, .ref (m + 1), .ref (m + 2), .ref (m + 3), .int 0, .int 0, .int 0, .int 0, .int 0, .int 0, .int 0, .int 0, .long 0, .ref (m + 4), .int 0, .int 0, .int 0, .int 0, .int 0, .int 0, .int 0, .ref (m + 5), .ref (m + 6), .int 0, .int 0, .int 0, .int 0, .ref (m + 7), .null, .null, .null] dX6_init_57 fpX6_28 (fun _ => rfl) f0 rfl rfl rfl rfl (fun h14 g0 hF => ?_)
  replace f0 := g0
  clear g0
  replace f1 := (hF (m + 1) (by omega)).trans f1
  replace f2 := (hF (m + 2) (by omega)).trans f2
  replace f3 := (hF (m + 3) (by omega)).trans f3
  replace f4 := (hF (m + 4) (by omega)).trans f4
  replace f5 := (hF (m + 5) (by omega)).trans f5
  replace f6 := (hF (m + 6) (by omega)).trans f6
  replace f7 := (hF (m + 7) (by omega)).trans f7
  replace hL : Lo m h h14 := fun q hq => (hF q (by omega)).trans (hL q hq)
  clear hF
  refine V_aload_n 60 dX6_init_60 rfl ?_
  refine V_bipushv 61 (6) dX6_init_61 (by decide) ?_
  refine V_newI 63 6 dX6_init_63 arr_int (by decide) (by decide) rfl ?_
  obtain ⟨h15, eh15⟩ : ∃ z, z = hpS h14 (m + 8) (aI G 6 (fun _ => 0)) := ⟨_, rfl⟩
  have hF : Fr (m + 8) 1 h14 h15 := by rw [eh15]; exact Fr1 _ _ _
  have f8 : h15 (m + 8) = some (aI G 6 (fun _ => 0)) := by rw [eh15]; exact hpS_self _ _ _
  rw [show hpS h14 (m + 8) (aI G 6 (fun _ => 0)) = h15 from eh15.symm]
  replace f0 := (hF m (by omega)).trans f0
  replace f1 := (hF (m + 1) (by omega)).trans f1
  replace f2 := (hF (m + 2) (by omega)).trans f2
  replace f3 := (hF (m + 3) (by omega)).trans f3
  replace f4 := (hF (m + 4) (by omega)).trans f4
  replace f5 := (hF (m + 5) (by omega)).trans f5
  replace f6 := (hF (m + 6) (by omega)).trans f6
  replace f7 := (hF (m + 7) (by omega)).trans f7
  replace hL : Lo m h h15 := fun q hq => (hF q (by omega)).trans (hL q hq)
  clear hF
  refine V_putL 65 [.int 0, .ref (m + 1), .ref (m + 2), .ref (m + 3), .int 0, .int 0, .int 0, .int 0, .int 0, .int 0, .int 0, .int 0, .long 0, .ref (m + 4), .int 0, .int 0, .int 0, .int 0, .int 0, .int 0, .int 0, .ref (m + 5), .ref (m + 6), .int 0, .int 0, .int 0, .int 0, .ref (m + 7), .ref (m + 8), .null, .null] dX6_init_65 fpX6_31 (fun _ => rfl) f0 rfl rfl rfl rfl (fun h16 g0 hF => ?_)
  replace f0 := g0
  clear g0
  replace f1 := (hF (m + 1) (by omega)).trans f1
  replace f2 := (hF (m + 2) (by omega)).trans f2
  replace f3 := (hF (m + 3) (by omega)).trans f3
  replace f4 := (hF (m + 4) (by omega)).trans f4
  replace f5 := (hF (m + 5) (by omega)).trans f5
  replace f6 := (hF (m + 6) (by omega)).trans f6
  replace f7 := (hF (m + 7) (by omega)).trans f7
  replace f8 := (hF (m + 8) (by omega)).trans f8
  replace hL : Lo m h h16 := fun q hq => (hF q (by omega)).trans (hL q hq)
  clear hF
  refine V_aload_n 68 dX6_init_68 rfl ?_
  refine V_bipushv 69 (6) dX6_init_69 (by decide) ?_
  refine V_newJ 71 6 dX6_init_71 arr_long (by decide) (by decide) rfl ?_
  obtain ⟨h17, eh17⟩ : ∃ z, z = hpS h16 (m + 9) (aJ G 6 (fun _ => 0)) := ⟨_, rfl⟩
  have hF : Fr (m + 9) 1 h16 h17 := by rw [eh17]; exact Fr1 _ _ _
  have f9 : h17 (m + 9) = some (aJ G 6 (fun _ => 0)) := by rw [eh17]; exact hpS_self _ _ _
  rw [show hpS h16 (m + 9) (aJ G 6 (fun _ => 0)) = h17 from eh17.symm]
  replace f0 := (hF m (by omega)).trans f0
  replace f1 := (hF (m + 1) (by omega)).trans f1
  replace f2 := (hF (m + 2) (by omega)).trans f2
  replace f3 := (hF (m + 3) (by omega)).trans f3
  replace f4 := (hF (m + 4) (by omega)).trans f4
  replace f5 := (hF (m + 5) (by omega)).trans f5
  replace f6 := (hF (m + 6) (by omega)).trans f6
  replace f7 := (hF (m + 7) (by omega)).trans f7
  replace f8 := (hF (m + 8) (by omega)).trans f8
  replace hL : Lo m h h17 := fun q hq => (hF q (by omega)).trans (hL q hq)
  clear hF
  refine V_putL 73 [.int 0, .ref (m + 1), .ref (m + 2), .ref (m + 3), .int 0, .int 0, .int 0, .int 0, .int 0, .int 0, .int 0, .int 0, .long 0, .ref (m + 4), .int 0, .int 0, .int 0, .int 0, .int 0, .int 0, .int 0, .ref (m + 5), .ref (m + 6), .int 0, .int 0, .int 0, .int 0, .ref (m + 7), .ref (m + 8), .ref (m + 9), .null] dX6_init_73 fpX6_34 (fun _ => rfl) f0 rfl rfl rfl rfl (fun h18 g0 hF => ?_)
  replace f0 := g0
  clear g0
  replace f1 := (hF (m + 1) (by omega)).trans f1
  replace f2 := (hF (m + 2) (by omega)).trans f2
  replace f3 := (hF (m + 3) (by omega)).trans f3
  replace f4 := (hF (m + 4) (by omega)).trans f4
  replace f5 := (hF (m + 5) (by omega)).trans f5
  replace f6 := (hF (m + 6) (by omega)).trans f6
  replace f7 := (hF (m + 7) (by omega)).trans f7
  replace f8 := (hF (m + 8) (by omega)).trans f8
  replace f9 := (hF (m + 9) (by omega)).trans f9
  replace hL : Lo m h h18 := fun q hq => (hF q (by omega)).trans (hL q hq)
  clear hF
  refine V_aload_n 76 dX6_init_76 rfl ?_
  refine V_bipushv 77 (6) dX6_init_77 (by decide) ?_
  refine V_newJ 79 6 dX6_init_79 arr_long (by decide) (by decide) rfl ?_
  obtain ⟨h19, eh19⟩ : ∃ z, z = hpS h18 (m + 10) (aJ G 6 (fun _ => 0)) := ⟨_, rfl⟩
  have hF : Fr (m + 10) 1 h18 h19 := by rw [eh19]; exact Fr1 _ _ _
  have f10 : h19 (m + 10) = some (aJ G 6 (fun _ => 0)) := by rw [eh19]; exact hpS_self _ _ _
  rw [show hpS h18 (m + 10) (aJ G 6 (fun _ => 0)) = h19 from eh19.symm]
  replace f0 := (hF m (by omega)).trans f0
  replace f1 := (hF (m + 1) (by omega)).trans f1
  replace f2 := (hF (m + 2) (by omega)).trans f2
  replace f3 := (hF (m + 3) (by omega)).trans f3
  replace f4 := (hF (m + 4) (by omega)).trans f4
  replace f5 := (hF (m + 5) (by omega)).trans f5
  replace f6 := (hF (m + 6) (by omega)).trans f6
  replace f7 := (hF (m + 7) (by omega)).trans f7
  replace f8 := (hF (m + 8) (by omega)).trans f8
  replace f9 := (hF (m + 9) (by omega)).trans f9
  replace hL : Lo m h h19 := fun q hq => (hF q (by omega)).trans (hL q hq)
  clear hF
  refine V_putL 81 [.int 0, .ref (m + 1), .ref (m + 2), .ref (m + 3), .int 0, .int 0, .int 0, .int 0, .int 0, .int 0, .int 0, .int 0, .long 0, .ref (m + 4), .int 0, .int 0, .int 0, .int 0, .int 0, .int 0, .int 0, .ref (m + 5), .ref (m + 6), .int 0, .int 0, .int 0, .int 0, .ref (m + 7), .ref (m + 8), .ref (m + 9), .ref (m + 10)] dX6_init_81 fpX6_38 (fun _ => rfl) f0 rfl rfl rfl rfl (fun h20 g0 hF => ?_)
  replace f0 := g0
  clear g0
  replace f1 := (hF (m + 1) (by omega)).trans f1
  replace f2 := (hF (m + 2) (by omega)).trans f2
  replace f3 := (hF (m + 3) (by omega)).trans f3
  replace f4 := (hF (m + 4) (by omega)).trans f4
  replace f5 := (hF (m + 5) (by omega)).trans f5
  replace f6 := (hF (m + 6) (by omega)).trans f6
  replace f7 := (hF (m + 7) (by omega)).trans f7
  replace f8 := (hF (m + 8) (by omega)).trans f8
  replace f9 := (hF (m + 9) (by omega)).trans f9
  replace f10 := (hF (m + 10) (by omega)).trans f10
  replace hL : Lo m h h20 := fun q hq => (hF q (by omega)).trans (hL q hq)
  clear hF
  refine V_vret 84 dX6_init_84 ?_
  exact k _ ⟨f0, f1, f2, f3, f4, f5, f6, f7, f8, f9, f10⟩ hL
set_option maxHeartbeats 1000000 in
set_option maxRecDepth 100000 in
theorem lp_X6_commonOf {a b : Int64} {g : Nat} (k : Post (some (.long (lN g))) h sz) : ∀ (N z x : Nat) (v8 : Option Value), z ≤ N → z < 2 ^ 63 → x < 2 ^ 63 → Nat.gcd x z = g → V l G RX6 cX6_commonOf 10 (some .long) false 0 0 0 Post 6 [some (.long a), none, some (.long b), none, some (.long (lN x)), none, some (.long (lN z)), none, v8, none] [] h sz := by
  intro N
  induction N with
  | zero =>
    intro z x v8 hz hz63 hx hg
    have e : z = 0 := by omega
    subst e
    rw [Nat.gcd_zero_right] at hg
    subst hg
    refine V_lload 6 dX6_commonOf_6 rfl ?_
    refine V_lconstv 8 0 dX6_commonOf_8 (by decide) ?_
    refine V_lcmp 9 dX6_commonOf_9 ?_
    refine V_if_eq 10 31 dX6_commonOf_10 rfl (fun _ => ?_) (fun q => absurd ((lg_cmp_eq _ _).mpr (show lN 0 = 0 from rfl)) q)
    refine V_lload 31 dX6_commonOf_31 rfl ?_
    refine V_lret 33 dX6_commonOf_33 ?_
    exact k
  | succ N ih =>
    intro z x v8 hz hz63 hx hg
    refine V_lload 6 dX6_commonOf_6 rfl ?_
    refine V_lconstv 8 0 dX6_commonOf_8 (by decide) ?_
    refine V_lcmp 9 dX6_commonOf_9 ?_
    refine V_if_eq 10 31 dX6_commonOf_10 rfl (fun c_10 => ?_) (fun c_10 => ?_)
    · have e : z = 0 := (pk_lEQ (b := 0) hz63 (by decide)).mp ((lg_cmp_eq _ _).mp c_10)
      subst e
      rw [Nat.gcd_zero_right] at hg
      subst hg
      refine V_lload 31 dX6_commonOf_31 rfl ?_
      refine V_lret 33 dX6_commonOf_33 ?_
      exact k
    · have e : 0 < z := Nat.pos_of_ne_zero (fun q => c_10 ((lg_cmp_eq _ _).mpr (by rw [q]; rfl)))
      refine V_lload 13 dX6_commonOf_13 rfl ?_
      refine V_lload 15 dX6_commonOf_15 rfl ?_
      refine V_lrem 17 dX6_commonOf_17 (fun q => c_10 ((lg_cmp_eq _ _).mpr q)) ?_
      refine V_topl (lN (x % z)) (pk_lRem hx e hz63) ?_
      refine V_lstore 18 dX6_commonOf_18 rfl rfl ?_
      refine V_lload 20 dX6_commonOf_20 rfl ?_
      refine V_lstore 22 dX6_commonOf_22 rfl rfl ?_
      refine V_lload 24 dX6_commonOf_24 rfl ?_
      refine V_lstore 26 dX6_commonOf_26 rfl rfl ?_
      refine V_goto 28 6 dX6_commonOf_28 rfl ?_
      exact ih (x % z) z _ (by have := Nat.mod_lt x e; omega) (by have := Nat.mod_lt x e; omega) hz63 (by rw [← hg, Nat.gcd_comm z, ← Nat.gcd_rec, Nat.gcd_comm])
set_option maxHeartbeats 1000000 in
set_option maxRecDepth 100000 in
theorem c_X6_commonOf (a b : Nat) (ha : a < 2 ^ 63) (hb : b < 2 ^ 63) (k : Post (some (.long (lN (Nat.gcd a b)))) h sz) : Cn l G yX6_commonOf cX6_commonOf 10 (some .long) 0 0 0 [.long (lN a), .long (lN b)] h sz Post := by
  refine Cn.of RX6 false (by decide) rfl (fun q => by cases q) (Nat.le_of_ble_eq_true rfl) ?_
  refine V_lload_n 0 dX6_commonOf_0 rfl ?_
  refine V_lstore 1 dX6_commonOf_1 rfl rfl ?_
  refine V_lload_n 3 dX6_commonOf_3 rfl ?_
  refine V_lstore 4 dX6_commonOf_4 rfl rfl ?_
  exact V_lvw (zget_pad _) (V_lvw (zget_pad _) (lp_X6_commonOf k b b a none (Nat.le_refl _) hb ha rfl))
set_option maxHeartbeats 1000000 in
set_option maxRecDepth 100000 in
theorem lp_X6_power {v : Int64} (n : Nat) (hn : n < 1000) (k : Post (some (.long (pwN v n))) h sz) : ∀ i, i ≤ n → V l G RX6 cX6_power 6 (some .long) false 0 0 0 Post 5 [some (.long v), none, some (.int (nI n)), some (.long (pwN v i)), none, some (.int (nI i))] [] h sz := by
  refine up_ind n (fun i hi ih => ?_)
  refine V_iload 5 dX6_power_5 rfl ?_
  refine V_iload_n 7 dX6_power_7 rfl ?_
  refine V_icmp_ge 8 21 dX6_power_8 rfl (fun c_8 => ?_) (fun c_8 => ?_)
  · have e_8 : i = n := Nat.le_antisymm hi ((nI_leI (by omega) (by omega)).mp c_8)
    subst e_8
    refine V_lload_n 21 dX6_power_21 rfl ?_
    refine V_lret 22 dX6_power_22 ?_
    exact k
  · have e_8 : i < n := Nat.lt_of_not_le (fun q => c_8 (nI_le q (by omega)))
    refine V_lload_n 11 dX6_power_11 rfl ?_
    refine V_lload_n 12 dX6_power_12 rfl ?_
    refine V_lmul 13 dX6_power_13 ?_
    refine V_lstore_n 14 dX6_power_14 rfl rfl ?_
    refine V_iinc 15 (nI (i + 1)) dX6_power_15 rfl (nI_inc i) rfl rfl ?_
    refine V_goto 18 5 dX6_power_18 rfl ?_
    exact ih (i + 1) rfl (by omega)
set_option maxHeartbeats 1000000 in
set_option maxRecDepth 100000 in
theorem c_X6_power {v : Int64} (n : Nat) (hn : n < 1000) (k : Post (some (.long (pwN v n))) h sz) : Cn l G yX6_power cX6_power 6 (some .long) 0 0 0 [.long v, .int (nI n)] h sz Post := by
  refine Cn.of RX6 false (by decide) rfl (fun q => by cases q) (Nat.le_of_ble_eq_true rfl) ?_
  refine V_lconstv 0 1 dX6_power_0 (by decide) ?_
  refine V_lstore_n 1 dX6_power_1 rfl rfl ?_
  refine V_iconstv 2 (0) dX6_power_2 (by decide) ?_
  refine V_istore 3 dX6_power_3 rfl rfl ?_
  exact lp_X6_power n hn k 0 (Nat.zero_le _)
def lvN (a b : Nat) : Nat → Int64
  | 0 => 0
  | i + 1 => lvN a b i + chN a b b * pwN (nI i).toInt64 (a - b)
set_option maxHeartbeats 1000000 in
set_option maxRecDepth 100000 in
theorem lq_X6_leave (a b c : Nat) (hb : b ≤ a) (ha : a < 100) (hc : c < 100) (k : Post (some (.long (lvN a b c))) h sz) : ∀ i, i ≤ c → V l G RX6 cX6_leave 8 (some .long) false 1 0 0 Post 37 [some (.int (nI a)), some (.int (nI b)), some (.int (nI c)), some (.long (chN a b b)), none, some (.long (lvN a b i)), none, some (.int (nI (i + 1)))] [] h sz := by
  refine up_ind c (fun i hi ih => ?_)
  refine V_iload 37 dX6_leave_37 rfl ?_
  refine V_iload_n 39 dX6_leave_39 rfl ?_
  refine V_icmp_gt 40 67 dX6_leave_40 rfl (fun c_40 => ?_) (fun c_40 => ?_)
  · have e_8 : i = c := by
      have := (nI_ltI (by omega) (by omega)).mp c_40
      omega
    subst e_8
    refine V_lload 67 dX6_leave_67 rfl ?_
    refine V_lret 69 dX6_leave_69 ?_
    exact k
  · have e_8 : i < c := by
      rcases Nat.lt_or_ge i c with q | q
      · exact q
      · exact absurd (nI_lt (by omega) (by omega)) c_40
    refine V_lload 43 dX6_leave_43 rfl ?_
    refine V_lload_n 45 dX6_leave_45 rfl ?_
    refine V_iload 46 dX6_leave_46 rfl ?_
    refine V_iconstv 48 (1) dX6_leave_48 (by decide) ?_
    refine V_isub 49 dX6_leave_49 ?_
    refine V_topi (nI i) (nI_pred i) ?_
    refine V_i2l 50 dX6_leave_50 ?_
    refine V_iload_n 51 dX6_leave_51 rfl ?_
    refine V_iload_n 52 dX6_leave_52 rfl ?_
    refine V_isub 53 dX6_leave_53 ?_
    refine V_topi (nI (a - b)) (pk_sub hb) ?_
    refine V_is2 54 dX6_leave_54 ksX6_277 rfl rfl (c_X6_power (a - b) (by omega) ?_)
    refine V_lmul 57 dX6_leave_57 ?_
    refine V_ladd 58 dX6_leave_58 ?_
    refine V_lstore 59 dX6_leave_59 rfl rfl ?_
    refine V_iinc 61 (nI (i + 1 + 1)) dX6_leave_61 rfl (nI_inc (i + 1)) rfl rfl ?_
    refine V_goto 64 37 dX6_leave_64 rfl ?_
    exact ih (i + 1) rfl (by omega)
set_option maxHeartbeats 1000000 in
set_option maxRecDepth 100000 in
theorem lp_X6_leave (a b c : Nat) (hb : b ≤ a) (ha : a < 100) (hc : c < 100) (k : Post (some (.long (lvN a b c))) h sz) : ∀ i, i ≤ b → V l G RX6 cX6_leave 8 (some .long) false 1 0 0 Post 5 [some (.int (nI a)), some (.int (nI b)), some (.int (nI c)), some (.long (chN a b i)), none, some (.int (nI (i + 1)))] [] h sz := by
  refine up_ind b (fun i hi ih => ?_)
  refine V_iload 5 dX6_leave_5 rfl ?_
  refine V_iload_n 7 dX6_leave_7 rfl ?_
  refine V_icmp_gt 8 31 dX6_leave_8 rfl (fun c_8 => ?_) (fun c_8 => ?_)
  · have e_8 : i = b := by
      have := (nI_ltI (by omega) (by omega)).mp c_8
      omega
    subst e_8
    refine V_lconstv 31 0 dX6_leave_31 (by decide) ?_
    refine V_lstore 32 dX6_leave_32 rfl rfl ?_
    refine V_iconstv 34 (1) dX6_leave_34 (by decide) ?_
    refine V_istore 35 dX6_leave_35 rfl rfl ?_
    exact lq_X6_leave a i c hb ha hc k 0 (Nat.zero_le _)
  · have e_8 : i < b := by
      rcases Nat.lt_or_ge i b with q | q
      · exact q
      · exact absurd (nI_lt (by omega) (by omega)) c_8
    refine V_lload_n 11 dX6_leave_11 rfl ?_
    refine V_iload_n 12 dX6_leave_12 rfl ?_
    refine V_iload_n 13 dX6_leave_13 rfl ?_
    refine V_isub 14 dX6_leave_14 ?_
    refine V_topi (nI (a - b)) (pk_sub hb) ?_
    refine V_iload 15 dX6_leave_15 rfl ?_
    refine V_iadd 17 dX6_leave_17 ?_
    refine V_topi (nI (a - b + (i + 1))) (nI_add _ _) ?_
    refine V_i2l 18 dX6_leave_18 ?_
    refine V_lmul 19 dX6_leave_19 ?_
    refine V_iload 20 dX6_leave_20 rfl ?_
    refine V_i2l 22 dX6_leave_22 ?_
    refine V_ldiv 23 dX6_leave_23 (nI_l0 (by omega) (by omega)) ?_
    refine V_lstore_n 24 dX6_leave_24 rfl rfl ?_
    refine V_iinc 25 (nI (i + 1 + 1)) dX6_leave_25 rfl (nI_inc (i + 1)) rfl rfl ?_
    refine V_goto 28 5 dX6_leave_28 rfl ?_
    exact ih (i + 1) rfl (by omega)
set_option maxHeartbeats 1000000 in
set_option maxRecDepth 100000 in
theorem c_X6_leave (a b c : Nat) (hb : b ≤ a) (ha : a < 100) (hc : c < 100) (k : Post (some (.long (lvN a b c))) h sz) : Cn l G yX6_leave cX6_leave 8 (some .long) 1 0 0 [.int (nI a), .int (nI b), .int (nI c)] h sz Post := by
  refine Cn.of RX6 false (by decide) rfl (fun q => by cases q) (Nat.le_of_ble_eq_true rfl) ?_
  refine V_lconstv 0 1 dX6_leave_0 (by decide) ?_
  refine V_lstore_n 1 dX6_leave_1 rfl rfl ?_
  refine V_iconstv 2 (1) dX6_leave_2 (by decide) ?_
  refine V_istore 3 dX6_leave_3 rfl rfl ?_
  exact lp_X6_leave a b c hb ha hc k 0 (Nat.zero_le _)
end M46
