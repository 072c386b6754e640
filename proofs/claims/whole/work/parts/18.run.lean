def dlR (Q : RG) (E : ET) (x : Int32) : Int32 := if bsy E x = true then eH (dlE Q E x) 1 else -1
def nxL (x : Int32) : Nat := (x + 1).toNatClampNeg
def dmE (Q : RG) (ord : Int32) : Nat → Nat → Int32 → ET → Nat × ET
  | 0, _, _, E => (0, E)
  | m + 1, j, y, E => if eN E = 0 then (0, E) else ((dmE Q ord m (nxL (chE E Q.1 ord j (fo y))) (fo y) (dlE Q E (chE E Q.1 ord j (fo y)))).1 + 1, (dmE Q ord m (nxL (chE E Q.1 ord j (fo y))) (fo y) (dlE Q E (chE E Q.1 ord j (fo y)))).2)
theorem laN_form (p : Nat → Bool) : ∀ n, laN p n = -1 ∨ ∃ i, i < n ∧ laN p n = nI i
  | 0 => Or.inl rfl
  | n + 1 => by
    rw [laN]
    by_cases h : p n = true
    · rw [if_pos h]; exact Or.inr ⟨n, by omega, rfl⟩
    · rw [if_neg h]
      rcases laN_form p n with q | ⟨i, hi, q⟩
      · exact Or.inl q
      · exact Or.inr ⟨i, by omega, q⟩
theorem chE_form (E : ET) (n : Nat) (ord : Int32) (j : Nat) (y : Int32) : chE E n ord j y = -1 ∨ ∃ i, i < 2 * n ∧ chE E n ord j y = nI i := by
  have fb : ∀ (p : Nat → Bool) (m : Nat), (if fiN p m < m then nI (fiN p m) else (-1 : Int32)) = -1 ∨ ∃ i, i < m ∧ (if fiN p m < m then nI (fiN p m) else (-1 : Int32)) = nI i := by
    intro p m
    by_cases h : fiN p m < m
    · rw [if_pos h]; exact Or.inr ⟨_, h, rfl⟩
    · rw [if_neg h]; exact Or.inl rfl
  unfold chE
  by_cases h0 : ord = 0
  · rw [if_pos h0]; exact fb _ _
  · rw [if_neg h0]
    by_cases h1 : ord = 1
    · rw [if_pos h1]; exact laN_form _ _
    · rw [if_neg h1]
      by_cases h2 : ord = 2
      · rw [if_pos h2]
        by_cases h3 : lbE E n j = -1
        · rw [if_pos h3]; exact fb _ _
        · rw [if_neg h3]; exact fb _ _
      · rw [if_neg h2]; exact fb _ _
theorem chE_nx (E : ET) {n : Nat} (hn : n ≤ 6) (ord : Int32) (j : Nat) (y : Int32) : chE E n ord j y + 1 = nI (nxL (chE E n ord j y)) ∧ nxL (chE E n ord j y) ≤ 12 := by
  unfold nxL
  rcases chE_form E n ord j y with q | ⟨i, hi, q⟩
  · rw [q]; decide
  · rw [q, nI_1, nI_clamp (by omega)]; exact ⟨rfl, by omega⟩
def sdx (seed : Int32) (i : Nat) : Int32 := (seed.toInt64 * (nI (i + 1)).toInt64 - seed.toInt64 * (nI (i + 1)).toInt64 / 2147483647 * 2147483647).toInt32
def iniV (Q : RG) (seed : Int32) (i j : Nat) : Int32 := if j = 0 then 0 else if j = 1 then Q.2.2 i else if j = 5 then 0 else if j = 7 then sdx seed i else -1
def iniC (Q : RG) (seed : Int32) (k : Nat) : Int32 := if k < 48 then iniV Q seed (k / 8) (k % 8) else 0
def stC (E : ET) (Q : RG) (seed : Int32) (i : Nat) : ET := eC' E (fun k => if k < 8 * i then iniC Q seed k else eC E k)
def startE (Q : RG) (E : ET) (way d seed : Int32) : ET := (way, d, iniC Q seed, eL E, 0, (fun _ => 0), eH E)
theorem upd_if (f : Nat → Int32) (j : Nat) (x : Int32) (k : Nat) : upd f j x k = if k = j then x else f k := by
  by_cases h : k = j
  · subst h; rw [pk_us, if_pos rfl]
  · rw [pk_un h, if_neg h]
theorem stC_step (E : ET) (Q : RG) (seed : Int32) {i : Nat} (hi : i < 6) : setE (setE (setE (setE (setE (setE (setE (setE (stC E Q seed i) (nI i) 0 0) (nI i) 1 (snR Q (nI i))) (nI i) 2 (-1)) (nI i) 3 (-1)) (nI i) 4 (-1)) (nI i) 5 0) (nI i) 6 (-1)) (nI i) 7 (sdx seed i) = stC E Q seed (i + 1) := by
  have hs : snR Q (nI i) = Q.2.2 i := by
    unfold snR
    rw [if_pos (inb_nI hi (by decide)), nI_clamp (by omega)]
  rw [hs]
  have s0 : ∀ (E : ET) (v : Int32), setE E (nI i) 0 v = eC' E (upd (eC E) (8 * i + 0) v) := fun E v => setE_nI E (k := 0) hi (by omega) v
  have s1 : ∀ (E : ET) (v : Int32), setE E (nI i) 1 v = eC' E (upd (eC E) (8 * i + 1) v) := fun E v => setE_nI E (k := 1) hi (by omega) v
  have s2 : ∀ (E : ET) (v : Int32), setE E (nI i) 2 v = eC' E (upd (eC E) (8 * i + 2) v) := fun E v => setE_nI E (k := 2) hi (by omega) v
  have s3 : ∀ (E : ET) (v : Int32), setE E (nI i) 3 v = eC' E (upd (eC E) (8 * i + 3) v) := fun E v => setE_nI E (k := 3) hi (by omega) v
  have s4 : ∀ (E : ET) (v : Int32), setE E (nI i) 4 v = eC' E (upd (eC E) (8 * i + 4) v) := fun E v => setE_nI E (k := 4) hi (by omega) v
  have s5 : ∀ (E : ET) (v : Int32), setE E (nI i) 5 v = eC' E (upd (eC E) (8 * i + 5) v) := fun E v => setE_nI E (k := 5) hi (by omega) v
  have s6 : ∀ (E : ET) (v : Int32), setE E (nI i) 6 v = eC' E (upd (eC E) (8 * i + 6) v) := fun E v => setE_nI E (k := 6) hi (by omega) v
  have s7 : ∀ (E : ET) (v : Int32), setE E (nI i) 7 v = eC' E (upd (eC E) (8 * i + 7) v) := fun E v => setE_nI E (k := 7) hi (by omega) v
  rw [s0, s1, s2, s3, s4, s5, s6, s7]
  unfold stC
  simp only [eC', eC]
  congr 3
  funext k
  simp only [upd_if]
  by_cases h1 : k < 8 * i
  · rw [if_neg (by omega), if_neg (by omega), if_neg (by omega), if_neg (by omega), if_neg (by omega), if_neg (by omega), if_neg (by omega), if_neg (by omega), if_pos h1, if_pos (by omega)]
  · by_cases h2 : 8 * (i + 1) ≤ k
    · rw [if_neg (by omega), if_neg (by omega), if_neg (by omega), if_neg (by omega), if_neg (by omega), if_neg (by omega), if_neg (by omega), if_neg (by omega), if_neg h1, if_neg (by omega)]
    · rw [if_pos (show k < 8 * (i + 1) by omega)]
      have hk : k < 48 := by omega
      unfold iniC
      rw [if_pos hk, show k / 8 = i by omega]
      unfold iniV
      rcases (show k = 8 * i + 0 ∨ k = 8 * i + 1 ∨ k = 8 * i + 2 ∨ k = 8 * i + 3 ∨ k = 8 * i + 4 ∨ k = 8 * i + 5 ∨ k = 8 * i + 6 ∨ k = 8 * i + 7 by omega) with q | q | q | q | q | q | q | q <;> subst q
      · rw [show (8 * i + 0) % 8 = 0 by omega]; simp
      · rw [show (8 * i + 1) % 8 = 1 by omega]; simp
      · rw [show (8 * i + 2) % 8 = 2 by omega]; simp
      · rw [show (8 * i + 3) % 8 = 3 by omega]; simp
      · rw [show (8 * i + 4) % 8 = 4 by omega]; simp
      · rw [show (8 * i + 5) % 8 = 5 by omega]; simp
      · rw [show (8 * i + 6) % 8 = 6 by omega]; simp
      · rw [show (8 * i + 7) % 8 = 7 by omega]; simp
theorem stC_0 (E : ET) (Q : RG) (seed : Int32) : stC E Q seed 0 = E := by
  unfold stC eC'
  simp
theorem stC_6 (E : ET) (Q : RG) (seed : Int32) (hz : zb 48 (eC E)) : stC E Q seed 6 = eC' E (iniC Q seed) := by
  unfold stC
  congr 1
  funext k
  by_cases h : k < 48
  · rw [if_pos (by omega)]
  · rw [if_neg (by omega), hz k (by omega)]
    unfold iniC
    rw [if_neg h]
def stS (E : ET) (i : Nat) : ET := eS' E (fun k => if k < i then 0 else eS E k)
section M18
variable {l : Launch} {G : zGT} {h h0 : hpT} {sz : Nat} {Post : Option Value → hpT → Nat → Prop} {o r : Nat} {Q : RG} {E : ET}
set_option maxHeartbeats 1000000 in
set_option maxRecDepth 100000 in
theorem c_X0_deliverFrom (hW : WE G h0 h o r E Q) {x : Int32} (k : ∀ h, WE G h0 h o r (dlE Q E x) Q → Post (some (.int (dlR Q E x))) h sz) : Cn l G yX0_deliverFrom cX0_deliverFrom 5 (some .int) 5 0 0 [.ref o, .int x] h sz Post := by
  refine Cn.of RX0 false (by decide) rfl (fun q => by cases q) (Nat.le_of_ble_eq_true rfl) ?_
  refine V_aload_n 0 dX0_deliverFrom_0 rfl ?_
  refine V_iload_n 1 dX0_deliverFrom_1 rfl ?_
  refine V_iconstv 2 (0) dX0_deliverFrom_2 (by decide) ?_
  refine V_iv2 3 dX0_deliverFrom_3 kvX0_74 rfl (by first | exact hW.1.1 | exact hW.1.2.1 | exact hW.1.2.2.1 | exact hW.1.2.2.2.1 | exact hW.1.2.2.2.2.1 | exact hW.2.1.1 | exact hW.2.1.2.1 | exact hW.2.1.2.2.1) rfl rfl (c_X0_placeOf hW ?_)
  refine V_topi (if bsy E x = true then nI (fiN (onB E x) (eN E)) else -1) (plE_0 E x hW.1.2.2.2.2.2.1) ?_
  refine V_istore_n 6 dX0_deliverFrom_6 rfl rfl ?_
  refine V_iload_n 7 dX0_deliverFrom_7 rfl ?_
  refine V_iconstv 8 (-1) dX0_deliverFrom_8 (by decide) ?_
  refine V_icmp_ne 9 14 dX0_deliverFrom_9 rfl (fun c_9 => ?_) (fun c_9 => ?_)
  · have hb : bsy E x = true := by
      by_cases q : bsy E x = true
      · exact q
      · exact absurd (if_neg q) c_9
    have hp : fiN (onB E x) (eN E) < eN E := by simpa [bsy] using hb
    rw [if_pos hb]
    refine V_aload_n 14 dX0_deliverFrom_14 rfl ?_
    refine V_iload_n 15 dX0_deliverFrom_15 rfl ?_
    refine V_iv1 16 dX0_deliverFrom_16 kvX0_120 rfl (by first | exact hW.1.1 | exact hW.1.2.1 | exact hW.1.2.2.1 | exact hW.1.2.2.2.1 | exact hW.1.2.2.2.2.1 | exact hW.2.1.1 | exact hW.2.1.2.1 | exact hW.2.1.2.2.1) rfl rfl (c_X0_takeInHand hW (fiN (onB E x) (eN E)) hp (fun h hW => ?_))
    refine V_aload_n 19 dX0_deliverFrom_19 rfl ?_
    refine V_get 20 dX0_deliverFrom_20 fdX0_34 (by first | exact hW.1.1 | exact hW.1.2.1 | exact hW.1.2.2.1 | exact hW.1.2.2.2.1 | exact hW.1.2.2.2.2.1 | exact hW.2.1.1 | exact hW.2.1.2.1 | exact hW.2.1.2.2.1) rfl ?_
    refine V_iload_n 23 dX0_deliverFrom_23 rfl ?_
    refine V_iv1 24 dX0_deliverFrom_24 kvX0_123 rfl (by first | exact hW.1.1 | exact hW.1.2.1 | exact hW.1.2.2.1 | exact hW.1.2.2.2.1 | exact hW.1.2.2.2.2.1 | exact hW.2.1.1 | exact hW.2.1.2.1 | exact hW.2.1.2.2.1) rfl rfl (c_X3_receiverOf hW.2.1 ?_)
    refine V_istore_n 27 dX0_deliverFrom_27 rfl rfl ?_
    refine V_aload_n 28 dX0_deliverFrom_28 rfl ?_
    refine V_iload_n 29 dX0_deliverFrom_29 rfl ?_
    refine V_iconstv 30 (0) dX0_deliverFrom_30 (by decide) ?_
    refine V_iv2 31 dX0_deliverFrom_31 kvX0_67 rfl (by first | exact hW.1.1 | exact hW.1.2.1 | exact hW.1.2.2.1 | exact hW.1.2.2.2.1 | exact hW.1.2.2.2.2.1 | exact hW.2.1.1 | exact hW.2.1.2.1 | exact hW.2.1.2.2.1) rfl rfl (c_X0_cell hW ?_)
    refine V_if_ne 34 44 dX0_deliverFrom_34 rfl (fun c_34 => ?_) (fun c_34 => ?_)
    · refine V_aload_n 44 dX0_deliverFrom_44 rfl ?_
      refine V_iload_n 45 dX0_deliverFrom_45 rfl ?_
      refine V_iconstv 46 (0) dX0_deliverFrom_46 (by decide) ?_
      refine V_iv2 47 dX0_deliverFrom_47 kvX0_67 rfl (by first | exact hW.1.1 | exact hW.1.2.1 | exact hW.1.2.2.1 | exact hW.1.2.2.2.1 | exact hW.1.2.2.2.2.1 | exact hW.2.1.1 | exact hW.2.1.2.1 | exact hW.2.1.2.2.1) rfl rfl (c_X0_cell hW ?_)
      refine V_iconstv 50 (3) dX0_deliverFrom_50 (by decide) ?_
      refine V_icmp_eq 51 108 dX0_deliverFrom_51 rfl (fun c_51 => ?_) (fun c_51 => ?_)
      · refine V_aload_n 108 dX0_deliverFrom_108 rfl ?_
        refine V_get 109 dX0_deliverFrom_109 fdX0_31 (by first | exact hW.1.1 | exact hW.1.2.1 | exact hW.1.2.2.1 | exact hW.1.2.2.2.1 | exact hW.1.2.2.2.2.1 | exact hW.2.1.1 | exact hW.2.1.2.1 | exact hW.2.1.2.2.1) rfl ?_
        refine V_iconstv 112 (1) dX0_deliverFrom_112 (by decide) ?_
        refine V_ialdk 113 1 rfl dX0_deliverFrom_113 (by first | exact hW.1.1 | exact hW.1.2.1 | exact hW.1.2.2.1 | exact hW.1.2.2.2.1 | exact hW.1.2.2.2.2.1 | exact hW.2.1.1 | exact hW.2.1.2.1 | exact hW.2.1.2.2.1) (inb_in (by decide)) ?_
        refine V_iret 114 dX0_deliverFrom_114 ?_
        unfold dlR dlE at k
        rw [if_pos hb, if_pos hb] at k
        unfold dl1 at k
        first | rw [if_pos c_34] at k | rw [if_neg c_34] at k
        unfold dl2 at k
        first | (rw [if_pos c_51] at k; exact k _ hW) | (rw [if_neg c_51] at k; unfold dl3 at k; first | (rw [if_pos c_59] at k; exact k _ hW) | (rw [if_neg c_59] at k; exact k _ hW))
      · refine V_aload_n 54 dX0_deliverFrom_54 rfl ?_
        refine V_iload_n 55 dX0_deliverFrom_55 rfl ?_
        refine V_iv1 56 dX0_deliverFrom_56 kvX0_126 rfl (by first | exact hW.1.1 | exact hW.1.2.1 | exact hW.1.2.2.1 | exact hW.1.2.2.2.1 | exact hW.1.2.2.2.2.1 | exact hW.2.1.1 | exact hW.2.1.2.1 | exact hW.2.1.2.2.1) rfl rfl (c_X0_goesOn hW (fun h hW => ?_))
        refine V_if_eq 59 108 dX0_deliverFrom_59 rfl (fun c_59 => ?_) (fun c_59 => ?_)
        · refine V_aload_n 108 dX0_deliverFrom_108 rfl ?_
          refine V_get 109 dX0_deliverFrom_109 fdX0_31 (by first | exact hW.1.1 | exact hW.1.2.1 | exact hW.1.2.2.1 | exact hW.1.2.2.2.1 | exact hW.1.2.2.2.2.1 | exact hW.2.1.1 | exact hW.2.1.2.1 | exact hW.2.1.2.2.1) rfl ?_
          refine V_iconstv 112 (1) dX0_deliverFrom_112 (by decide) ?_
          refine V_ialdk 113 1 rfl dX0_deliverFrom_113 (by first | exact hW.1.1 | exact hW.1.2.1 | exact hW.1.2.2.1 | exact hW.1.2.2.2.1 | exact hW.1.2.2.2.2.1 | exact hW.2.1.1 | exact hW.2.1.2.1 | exact hW.2.1.2.2.1) (inb_in (by decide)) ?_
          refine V_iret 114 dX0_deliverFrom_114 ?_
          unfold dlR dlE at k
          rw [if_pos hb, if_pos hb] at k
          unfold dl1 at k
          first | rw [if_pos c_34] at k | rw [if_neg c_34] at k
          unfold dl2 at k
          first | (rw [if_pos c_51] at k; exact k _ hW) | (rw [if_neg c_51] at k; unfold dl3 at k; first | (rw [if_pos c_59] at k; exact k _ hW) | (rw [if_neg c_59] at k; exact k _ hW))
        · refine V_iload_n 62 dX0_deliverFrom_62 rfl ?_
          refine V_iload_n 63 dX0_deliverFrom_63 rfl ?_
          refine V_is1 64 dX0_deliverFrom_64 ksX0_129 rfl rfl (c_X3_directionOf ?_)
          refine V_is2 67 dX0_deliverFrom_67 ksX0_132 rfl rfl (c_X3_lineFrom ?_)
          refine V_istore 70 dX0_deliverFrom_70 rfl rfl ?_
          refine V_aload_n 72 dX0_deliverFrom_72 rfl ?_
          refine V_iload 73 dX0_deliverFrom_73 rfl ?_
          refine V_aload_n 75 dX0_deliverFrom_75 rfl ?_
          refine V_get 76 dX0_deliverFrom_76 fdX0_31 (by first | exact hW.1.1 | exact hW.1.2.1 | exact hW.1.2.2.1 | exact hW.1.2.2.2.1 | exact hW.1.2.2.2.2.1 | exact hW.2.1.1 | exact hW.2.1.2.1 | exact hW.2.1.2.2.1) rfl ?_
          refine V_iconstv 79 (1) dX0_deliverFrom_79 (by decide) ?_
          refine V_ialdk 80 1 rfl dX0_deliverFrom_80 (by first | exact hW.1.1 | exact hW.1.2.1 | exact hW.1.2.2.1 | exact hW.1.2.2.2.1 | exact hW.1.2.2.2.2.1 | exact hW.2.1.1 | exact hW.2.1.2.1 | exact hW.2.1.2.2.1) (inb_in (by decide)) ?_
          refine V_aload_n 81 dX0_deliverFrom_81 rfl ?_
          refine V_get 82 dX0_deliverFrom_82 fdX0_31 (by first | exact hW.1.1 | exact hW.1.2.1 | exact hW.1.2.2.1 | exact hW.1.2.2.2.1 | exact hW.1.2.2.2.2.1 | exact hW.2.1.1 | exact hW.2.1.2.1 | exact hW.2.1.2.2.1) rfl ?_
          refine V_iconstv 85 (2) dX0_deliverFrom_85 (by decide) ?_
          refine V_ialdk 86 2 rfl dX0_deliverFrom_86 (by first | exact hW.1.1 | exact hW.1.2.1 | exact hW.1.2.2.1 | exact hW.1.2.2.2.1 | exact hW.1.2.2.2.2.1 | exact hW.2.1.1 | exact hW.2.1.2.1 | exact hW.2.1.2.2.1) (inb_in (by decide)) ?_
          refine V_aload_n 87 dX0_deliverFrom_87 rfl ?_
          refine V_get 88 dX0_deliverFrom_88 fdX0_31 (by first | exact hW.1.1 | exact hW.1.2.1 | exact hW.1.2.2.1 | exact hW.1.2.2.2.1 | exact hW.1.2.2.2.2.1 | exact hW.2.1.1 | exact hW.2.1.2.1 | exact hW.2.1.2.2.1) rfl ?_
          refine V_iconstv 91 (3) dX0_deliverFrom_91 (by decide) ?_
          refine V_ialdk 92 3 rfl dX0_deliverFrom_92 (by first | exact hW.1.1 | exact hW.1.2.1 | exact hW.1.2.2.1 | exact hW.1.2.2.2.1 | exact hW.1.2.2.2.2.1 | exact hW.2.1.1 | exact hW.2.1.2.1 | exact hW.2.1.2.2.1) (inb_in (by decide)) ?_
          refine V_aload_n 93 dX0_deliverFrom_93 rfl ?_
          refine V_get 94 dX0_deliverFrom_94 fdX0_31 (by first | exact hW.1.1 | exact hW.1.2.1 | exact hW.1.2.2.1 | exact hW.1.2.2.2.1 | exact hW.1.2.2.2.2.1 | exact hW.2.1.1 | exact hW.2.1.2.1 | exact hW.2.1.2.2.1) rfl ?_
          refine V_iconstv 97 (4) dX0_deliverFrom_97 (by decide) ?_
          refine V_ialdk 98 4 rfl dX0_deliverFrom_98 (by first | exact hW.1.1 | exact hW.1.2.1 | exact hW.1.2.2.1 | exact hW.1.2.2.2.1 | exact hW.1.2.2.2.2.1 | exact hW.2.1.1 | exact hW.2.1.2.1 | exact hW.2.1.2.2.1) (inb_in (by decide)) ?_
          refine V_aload_n 99 dX0_deliverFrom_99 rfl ?_
          refine V_get 100 dX0_deliverFrom_100 fdX0_31 (by first | exact hW.1.1 | exact hW.1.2.1 | exact hW.1.2.2.1 | exact hW.1.2.2.2.1 | exact hW.1.2.2.2.2.1 | exact hW.2.1.1 | exact hW.2.1.2.1 | exact hW.2.1.2.2.1) rfl ?_
          refine V_iconstv 103 (5) dX0_deliverFrom_103 (by decide) ?_
          refine V_ialdk 104 5 rfl dX0_deliverFrom_104 (by first | exact hW.1.1 | exact hW.1.2.1 | exact hW.1.2.2.1 | exact hW.1.2.2.2.1 | exact hW.1.2.2.2.2.1 | exact hW.2.1.1 | exact hW.2.1.2.1 | exact hW.2.1.2.2.1) (inb_in (by decide)) ?_
          refine V_iv6 105 dX0_deliverFrom_105 kvX0_135 rfl (by first | exact hW.1.1 | exact hW.1.2.1 | exact hW.1.2.2.1 | exact hW.1.2.2.2.1 | exact hW.1.2.2.2.2.1 | exact hW.2.1.1 | exact hW.2.1.2.1 | exact hW.2.1.2.2.1) rfl rfl (c_X0_send hW (fun h hW => ?_))
          refine V_aload_n 108 dX0_deliverFrom_108 rfl ?_
          refine V_get 109 dX0_deliverFrom_109 fdX0_31 (by first | exact hW.1.1 | exact hW.1.2.1 | exact hW.1.2.2.1 | exact hW.1.2.2.2.1 | exact hW.1.2.2.2.2.1 | exact hW.2.1.1 | exact hW.2.1.2.1 | exact hW.2.1.2.2.1) rfl ?_
          refine V_iconstv 112 (1) dX0_deliverFrom_112 (by decide) ?_
          refine V_ialdk 113 1 rfl dX0_deliverFrom_113 (by first | exact hW.1.1 | exact hW.1.2.1 | exact hW.1.2.2.1 | exact hW.1.2.2.2.1 | exact hW.1.2.2.2.2.1 | exact hW.2.1.1 | exact hW.2.1.2.1 | exact hW.2.1.2.2.1) (inb_in (by decide)) ?_
          refine V_iret 114 dX0_deliverFrom_114 ?_
          unfold dlR dlE at k
          rw [if_pos hb, if_pos hb] at k
          unfold dl1 at k
          first | rw [if_pos c_34] at k | rw [if_neg c_34] at k
          unfold dl2 at k
          first | (rw [if_pos c_51] at k; exact k _ hW) | (rw [if_neg c_51] at k; unfold dl3 at k; first | (rw [if_pos c_59] at k; exact k _ hW) | (rw [if_neg c_59] at k; exact k _ hW))
    · refine V_aload_n 37 dX0_deliverFrom_37 rfl ?_
      refine V_iload_n 38 dX0_deliverFrom_38 rfl ?_
      refine V_iconstv 39 (0) dX0_deliverFrom_39 (by decide) ?_
      refine V_iconstv 40 (2) dX0_deliverFrom_40 (by decide) ?_
      refine V_iv3 41 dX0_deliverFrom_41 kvX0_44 rfl (by first | exact hW.1.1 | exact hW.1.2.1 | exact hW.1.2.2.1 | exact hW.1.2.2.2.1 | exact hW.1.2.2.2.2.1 | exact hW.2.1.1 | exact hW.2.1.2.1 | exact hW.2.1.2.2.1) rfl rfl (c_X0_setCell hW (fun h hW => ?_))
      refine V_aload_n 44 dX0_deliverFrom_44 rfl ?_
      refine V_iload_n 45 dX0_deliverFrom_45 rfl ?_
      refine V_iconstv 46 (0) dX0_deliverFrom_46 (by decide) ?_
      refine V_iv2 47 dX0_deliverFrom_47 kvX0_67 rfl (by first | exact hW.1.1 | exact hW.1.2.1 | exact hW.1.2.2.1 | exact hW.1.2.2.2.1 | exact hW.1.2.2.2.2.1 | exact hW.2.1.1 | exact hW.2.1.2.1 | exact hW.2.1.2.2.1) rfl rfl (c_X0_cell hW ?_)
      refine V_iconstv 50 (3) dX0_deliverFrom_50 (by decide) ?_
      refine V_icmp_eq 51 108 dX0_deliverFrom_51 rfl (fun c_51 => ?_) (fun c_51 => ?_)
      · refine V_aload_n 108 dX0_deliverFrom_108 rfl ?_
        refine V_get 109 dX0_deliverFrom_109 fdX0_31 (by first | exact hW.1.1 | exact hW.1.2.1 | exact hW.1.2.2.1 | exact hW.1.2.2.2.1 | exact hW.1.2.2.2.2.1 | exact hW.2.1.1 | exact hW.2.1.2.1 | exact hW.2.1.2.2.1) rfl ?_
        refine V_iconstv 112 (1) dX0_deliverFrom_112 (by decide) ?_
        refine V_ialdk 113 1 rfl dX0_deliverFrom_113 (by first | exact hW.1.1 | exact hW.1.2.1 | exact hW.1.2.2.1 | exact hW.1.2.2.2.1 | exact hW.1.2.2.2.2.1 | exact hW.2.1.1 | exact hW.2.1.2.1 | exact hW.2.1.2.2.1) (inb_in (by decide)) ?_
        refine V_iret 114 dX0_deliverFrom_114 ?_
        unfold dlR dlE at k
        rw [if_pos hb, if_pos hb] at k
        unfold dl1 at k
        first | rw [if_pos c_34] at k | rw [if_neg c_34] at k
        unfold dl2 at k
        first | (rw [if_pos c_51] at k; exact k _ hW) | (rw [if_neg c_51] at k; unfold dl3 at k; first | (rw [if_pos c_59] at k; exact k _ hW) | (rw [if_neg c_59] at k; exact k _ hW))
      · refine V_aload_n 54 dX0_deliverFrom_54 rfl ?_
        refine V_iload_n 55 dX0_deliverFrom_55 rfl ?_
        refine V_iv1 56 dX0_deliverFrom_56 kvX0_126 rfl (by first | exact hW.1.1 | exact hW.1.2.1 | exact hW.1.2.2.1 | exact hW.1.2.2.2.1 | exact hW.1.2.2.2.2.1 | exact hW.2.1.1 | exact hW.2.1.2.1 | exact hW.2.1.2.2.1) rfl rfl (c_X0_goesOn hW (fun h hW => ?_))
        refine V_if_eq 59 108 dX0_deliverFrom_59 rfl (fun c_59 => ?_) (fun c_59 => ?_)
        · refine V_aload_n 108 dX0_deliverFrom_108 rfl ?_
          refine V_get 109 dX0_deliverFrom_109 fdX0_31 (by first | exact hW.1.1 | exact hW.1.2.1 | exact hW.1.2.2.1 | exact hW.1.2.2.2.1 | exact hW.1.2.2.2.2.1 | exact hW.2.1.1 | exact hW.2.1.2.1 | exact hW.2.1.2.2.1) rfl ?_
          refine V_iconstv 112 (1) dX0_deliverFrom_112 (by decide) ?_
          refine V_ialdk 113 1 rfl dX0_deliverFrom_113 (by first | exact hW.1.1 | exact hW.1.2.1 | exact hW.1.2.2.1 | exact hW.1.2.2.2.1 | exact hW.1.2.2.2.2.1 | exact hW.2.1.1 | exact hW.2.1.2.1 | exact hW.2.1.2.2.1) (inb_in (by decide)) ?_
          refine V_iret 114 dX0_deliverFrom_114 ?_
          unfold dlR dlE at k
          rw [if_pos hb, if_pos hb] at k
          unfold dl1 at k
          first | rw [if_pos c_34] at k | rw [if_neg c_34] at k
          unfold dl2 at k
          first | (rw [if_pos c_51] at k; exact k _ hW) | (rw [if_neg c_51] at k; unfold dl3 at k; first | (rw [if_pos c_59] at k; exact k _ hW) | (rw [if_neg c_59] at k; exact k _ hW))
        · refine V_iload_n 62 dX0_deliverFrom_62 rfl ?_
          refine V_iload_n 63 dX0_deliverFrom_63 rfl ?_
          refine V_is1 64 dX0_deliverFrom_64 ksX0_129 rfl rfl (c_X3_directionOf ?_)
          refine V_is2 67 dX0_deliverFrom_67 ksX0_132 rfl rfl (c_X3_lineFrom ?_)
          refine V_istore 70 dX0_deliverFrom_70 rfl rfl ?_
          refine V_aload_n 72 dX0_deliverFrom_72 rfl ?_
          refine V_iload 73 dX0_deliverFrom_73 rfl ?_
          refine V_aload_n 75 dX0_deliverFrom_75 rfl ?_
          refine V_get 76 dX0_deliverFrom_76 fdX0_31 (by first | exact hW.1.1 | exact hW.1.2.1 | exact hW.1.2.2.1 | exact hW.1.2.2.2.1 | exact hW.1.2.2.2.2.1 | exact hW.2.1.1 | exact hW.2.1.2.1 | exact hW.2.1.2.2.1) rfl ?_
          refine V_iconstv 79 (1) dX0_deliverFrom_79 (by decide) ?_
          refine V_ialdk 80 1 rfl dX0_deliverFrom_80 (by first | exact hW.1.1 | exact hW.1.2.1 | exact hW.1.2.2.1 | exact hW.1.2.2.2.1 | exact hW.1.2.2.2.2.1 | exact hW.2.1.1 | exact hW.2.1.2.1 | exact hW.2.1.2.2.1) (inb_in (by decide)) ?_
          refine V_aload_n 81 dX0_deliverFrom_81 rfl ?_
          refine V_get 82 dX0_deliverFrom_82 fdX0_31 (by first | exact hW.1.1 | exact hW.1.2.1 | exact hW.1.2.2.1 | exact hW.1.2.2.2.1 | exact hW.1.2.2.2.2.1 | exact hW.2.1.1 | exact hW.2.1.2.1 | exact hW.2.1.2.2.1) rfl ?_
          refine V_iconstv 85 (2) dX0_deliverFrom_85 (by decide) ?_
          refine V_ialdk 86 2 rfl dX0_deliverFrom_86 (by first | exact hW.1.1 | exact hW.1.2.1 | exact hW.1.2.2.1 | exact hW.1.2.2.2.1 | exact hW.1.2.2.2.2.1 | exact hW.2.1.1 | exact hW.2.1.2.1 | exact hW.2.1.2.2.1) (inb_in (by decide)) ?_
          refine V_aload_n 87 dX0_deliverFrom_87 rfl ?_
          refine V_get 88 dX0_deliverFrom_88 fdX0_31 (by first | exact hW.1.1 | exact hW.1.2.1 | exact hW.1.2.2.1 | exact hW.1.2.2.2.1 | exact hW.1.2.2.2.2.1 | exact hW.2.1.1 | exact hW.2.1.2.1 | exact hW.2.1.2.2.1) rfl ?_
          refine V_iconstv 91 (3) dX0_deliverFrom_91 (by decide) ?_
          refine V_ialdk 92 3 rfl dX0_deliverFrom_92 (by first | exact hW.1.1 | exact hW.1.2.1 | exact hW.1.2.2.1 | exact hW.1.2.2.2.1 | exact hW.1.2.2.2.2.1 | exact hW.2.1.1 | exact hW.2.1.2.1 | exact hW.2.1.2.2.1) (inb_in (by decide)) ?_
          refine V_aload_n 93 dX0_deliverFrom_93 rfl ?_
          refine V_get 94 dX0_deliverFrom_94 fdX0_31 (by first | exact hW.1.1 | exact hW.1.2.1 | exact hW.1.2.2.1 | exact hW.1.2.2.2.1 | exact hW.1.2.2.2.2.1 | exact hW.2.1.1 | exact hW.2.1.2.1 | exact hW.2.1.2.2.1) rfl ?_
          refine V_iconstv 97 (4) dX0_deliverFrom_97 (by decide) ?_
          refine V_ialdk 98 4 rfl dX0_deliverFrom_98 (by first | exact hW.1.1 | exact hW.1.2.1 | exact hW.1.2.2.1 | exact hW.1.2.2.2.1 | exact hW.1.2.2.2.2.1 | exact hW.2.1.1 | exact hW.2.1.2.1 | exact hW.2.1.2.2.1) (inb_in (by decide)) ?_
          refine V_aload_n 99 dX0_deliverFrom_99 rfl ?_
          refine V_get 100 dX0_deliverFrom_100 fdX0_31 (by first | exact hW.1.1 | exact hW.1.2.1 | exact hW.1.2.2.1 | exact hW.1.2.2.2.1 | exact hW.1.2.2.2.2.1 | exact hW.2.1.1 | exact hW.2.1.2.1 | exact hW.2.1.2.2.1) rfl ?_
          refine V_iconstv 103 (5) dX0_deliverFrom_103 (by decide) ?_
          refine V_ialdk 104 5 rfl dX0_deliverFrom_104 (by first | exact hW.1.1 | exact hW.1.2.1 | exact hW.1.2.2.1 | exact hW.1.2.2.2.1 | exact hW.1.2.2.2.2.1 | exact hW.2.1.1 | exact hW.2.1.2.1 | exact hW.2.1.2.2.1) (inb_in (by decide)) ?_
          refine V_iv6 105 dX0_deliverFrom_105 kvX0_135 rfl (by first | exact hW.1.1 | exact hW.1.2.1 | exact hW.1.2.2.1 | exact hW.1.2.2.2.1 | exact hW.1.2.2.2.2.1 | exact hW.2.1.1 | exact hW.2.1.2.1 | exact hW.2.1.2.2.1) rfl rfl (c_X0_send hW (fun h hW => ?_))
          refine V_aload_n 108 dX0_deliverFrom_108 rfl ?_
          refine V_get 109 dX0_deliverFrom_109 fdX0_31 (by first | exact hW.1.1 | exact hW.1.2.1 | exact hW.1.2.2.1 | exact hW.1.2.2.2.1 | exact hW.1.2.2.2.2.1 | exact hW.2.1.1 | exact hW.2.1.2.1 | exact hW.2.1.2.2.1) rfl ?_
          refine V_iconstv 112 (1) dX0_deliverFrom_112 (by decide) ?_
          refine V_ialdk 113 1 rfl dX0_deliverFrom_113 (by first | exact hW.1.1 | exact hW.1.2.1 | exact hW.1.2.2.1 | exact hW.1.2.2.2.1 | exact hW.1.2.2.2.2.1 | exact hW.2.1.1 | exact hW.2.1.2.1 | exact hW.2.1.2.2.1) (inb_in (by decide)) ?_
          refine V_iret 114 dX0_deliverFrom_114 ?_
          unfold dlR dlE at k
          rw [if_pos hb, if_pos hb] at k
          unfold dl1 at k
          first | rw [if_pos c_34] at k | rw [if_neg c_34] at k
          unfold dl2 at k
          first | (rw [if_pos c_51] at k; exact k _ hW) | (rw [if_neg c_51] at k; unfold dl3 at k; first | (rw [if_pos c_59] at k; exact k _ hW) | (rw [if_neg c_59] at k; exact k _ hW))
  · have hb : ¬ bsy E x = true := by
      intro q
      rw [if_pos q] at c_9
      exact nI_ne_m1 (by have := hW.1.2.2.2.2.2.1; have := fiN_le (onB E x) (eN E); omega) c_9
    refine V_iconstv 12 (-1) dX0_deliverFrom_12 (by decide) ?_
    refine V_iret 13 dX0_deliverFrom_13 ?_
    unfold dlR dlE at k
    rw [if_neg hb, if_neg hb] at k
    exact k _ hW
set_option maxHeartbeats 1000000 in
set_option maxRecDepth 100000 in
theorem lp_X0_deliverMany {ord sd : Int32} (M : Nat) (hM : M ≤ 1000) : ∀ (m i j : Nat) (b y : Int32) (E : ET) (h : hpT), i + m = M → j ≤ 12 → b + 1 = nI j → WE G h0 h o r E Q → (∀ h, WE G h0 h o r (dmE Q ord m j y E).2 Q → Post (some (.int (nI (i + (dmE Q ord m j y E).1)))) h sz) → V l G RX0 cX0_deliverMany 7 (some .int) false 6 0 0 Post 9 [some (.ref o), some (.int ord), some (.int sd), some (.int (nI M)), some (.int b), some (.int y), some (.int (nI i))] [] h sz := by
  intro m
  induction m with
  | zero =>
    intro i j b y E h hi hj hb hW k
    have e : i = M := by omega
    subst e
    refine V_iload 9 dX0_deliverMany_9 rfl ?_
    refine V_iload_n 11 dX0_deliverMany_11 rfl ?_
    refine V_icmp_ge 12 53 dX0_deliverMany_12 rfl (fun _ => ?_) (fun q => absurd (nI_le (Nat.le_refl i) (by omega)) q)
    refine V_iload 53 dX0_deliverMany_53 rfl ?_
    refine V_iret 55 dX0_deliverMany_55 ?_
    exact k _ hW
  | succ m ih =>
    intro i j b y E h hi hj hb hW k
    have hn := hW.2.1.2.2.2.1
    have hc := hW.1.2.2.2.2.2.1
    rw [dmE] at k
    refine V_iload 9 dX0_deliverMany_9 rfl ?_
    refine V_iload_n 11 dX0_deliverMany_11 rfl ?_
    refine V_icmp_ge 12 53 dX0_deliverMany_12 rfl (fun q => absurd q (nI_ge (by omega) (by omega))) (fun _ => ?_)
    refine V_aload_n 15 dX0_deliverMany_15 rfl ?_
    refine V_get 16 dX0_deliverMany_16 fdX0_25 (by first | exact hW.1.1 | exact hW.1.2.1 | exact hW.1.2.2.1 | exact hW.1.2.2.2.1 | exact hW.1.2.2.2.2.1 | exact hW.2.1.1 | exact hW.2.1.2.1 | exact hW.2.1.2.2.1) rfl ?_
    refine V_if_le 19 53 dX0_deliverMany_19 rfl (fun c_19 => ?_) (fun c_19 => ?_)
    · have e_19 : eN E = 0 := by
        have := (nI_leI (b := 0) (by omega) (by decide)).mp c_19
        omega
      rw [if_pos e_19] at k
      refine V_iload 53 dX0_deliverMany_53 rfl ?_
      refine V_iret 55 dX0_deliverMany_55 ?_
      exact k _ hW
    · have e_19 : ¬ eN E = 0 := fun q => c_19 (by rw [q]; decide)
      rw [if_neg e_19] at k
      refine V_iload 22 dX0_deliverMany_22 rfl ?_
      refine V_is1 24 dX0_deliverMany_24 ksX0_81 rfl rfl (c_X5_following ?_)
      refine V_istore 27 dX0_deliverMany_27 rfl rfl ?_
      refine V_aload_n 29 dX0_deliverMany_29 rfl ?_
      refine V_iload_n 30 dX0_deliverMany_30 rfl ?_
      refine V_iload 31 dX0_deliverMany_31 rfl ?_
      refine V_iload 33 dX0_deliverMany_33 rfl ?_
      refine V_iv3 35 dX0_deliverMany_35 kvX0_84 rfl (by first | exact hW.1.1 | exact hW.1.2.1 | exact hW.1.2.2.1 | exact hW.1.2.2.2.1 | exact hW.1.2.2.2.2.1 | exact hW.2.1.1 | exact hW.2.1.2.1 | exact hW.2.1.2.2.1) rfl rfl (c_X0_chosenLine hW j hj hb ?_)
      refine V_istore 38 dX0_deliverMany_38 rfl rfl ?_
      refine V_aload_n 40 dX0_deliverMany_40 rfl ?_
      refine V_iload 41 dX0_deliverMany_41 rfl ?_
      refine V_iv1 43 dX0_deliverMany_43 kvX0_88 rfl (by first | exact hW.1.1 | exact hW.1.2.1 | exact hW.1.2.2.1 | exact hW.1.2.2.2.1 | exact hW.1.2.2.2.2.1 | exact hW.2.1.1 | exact hW.2.1.2.1 | exact hW.2.1.2.2.1) rfl rfl (c_X0_deliverFrom hW (fun h hW => ?_))
      refine V_pop 46 dX0_deliverMany_46 ?_
      refine V_iinc 47 (nI (i + 1)) dX0_deliverMany_47 rfl (nI_inc i) rfl rfl ?_
      refine V_goto 50 9 dX0_deliverMany_50 rfl ?_
      exact ih (i + 1) (nxL (chE E Q.1 ord j (fo y))) _ _ _ _ (by omega) (chE_nx E hn ord j (fo y)).2 (chE_nx E hn ord j (fo y)).1 hW (fun h hW => by have K := k h hW; rw [← Nat.add_assoc, Nat.add_right_comm] at K; exact K)
set_option maxHeartbeats 1000000 in
set_option maxRecDepth 100000 in
theorem c_X0_deliverMany (hW : WE G h0 h o r E Q) {ord sd : Int32} (M : Nat) (hM : M ≤ 1000) (k : ∀ h, WE G h0 h o r (dmE Q ord M 0 sd E).2 Q → Post (some (.int (nI (dmE Q ord M 0 sd E).1))) h sz) : Cn l G yX0_deliverMany cX0_deliverMany 7 (some .int) 6 0 0 [.ref o, .int ord, .int sd, .int (nI M)] h sz Post := by
  refine Cn.of RX0 false (by decide) rfl (fun q => by cases q) (Nat.le_of_ble_eq_true rfl) ?_
  refine V_iconstv 0 (-1) dX0_deliverMany_0 (by decide) ?_
  refine V_istore 1 dX0_deliverMany_1 rfl rfl ?_
  refine V_iload_n 3 dX0_deliverMany_3 rfl ?_
  refine V_istore 4 dX0_deliverMany_4 rfl rfl ?_
  refine V_iconstv 6 (0) dX0_deliverMany_6 (by decide) ?_
  refine V_istore 7 dX0_deliverMany_7 rfl rfl ?_
  exact lp_X0_deliverMany M hM M 0 0 (-1) sd E h (by omega) (by omega) (by decide) hW (fun h hW => by rw [Nat.zero_add]; exact k h hW)
theorem V_cpyC {own : String} {cc : ByteArray} {nL : Nat} {rt : Option FieldType} {ini : Bool} {d kc ks : Nat} {lv : List (Option Value)} {st : List Value} (pc : Nat) {idx a0 : Nat} {f : Nat → Int32} (hd : decode cc pc = .ok (.invokestatic idx, 3)) (k1 : zW (.methodLink own idx arraycopyName)) (hd1 : Nat.ble 1 d = true) (hw : Nat.ble ((st.map fun v => v.category).sum + (nativeFrameWords "java/lang/System" "arraycopy" 5 + 11)) 40 = true) (hW : WE G h0 h o r E Q) (ha0 : h a0 = some (aI G 48 f)) (hz : zb 48 f) (kk : ∀ h, WE G h0 h o r (eC' E f) Q → V l G own cc nL rt ini d kc ks Post (pc + 3) lv st h sz) : V l G own cc nL rt ini d kc ks Post pc lv (.int 48 :: .int 0 :: .ref (o + 1) :: .int 0 :: .ref a0 :: st) h sz := by
  refine V_copy pc hd k1 ac_n ac_s ac_i hd1 hw ha0 hW.1.2.1 (by decide) (by decide) (by decide) (Nat.le_refl 48) (Nat.le_refl 48) ?_
  have e : va_cpy f (eC E) (0 : Int32).toNatClampNeg (0 : Int32).toNatClampNeg (48 : Int32).toNatClampNeg = f := hz.cpyAll hW.1.2.2.2.2.2.2.1
  rw [e]
  exact kk _ (hW.sC _ hz)
theorem V_cpyL {own : String} {cc : ByteArray} {nL : Nat} {rt : Option FieldType} {ini : Bool} {d kc ks : Nat} {lv : List (Option Value)} {st : List Value} (pc : Nat) {idx a0 : Nat} {f : Nat → Int32} (hd : decode cc pc = .ok (.invokestatic idx, 3)) (k1 : zW (.methodLink own idx arraycopyName)) (hd1 : Nat.ble 1 d = true) (hw : Nat.ble ((st.map fun v => v.category).sum + (nativeFrameWords "java/lang/System" "arraycopy" 5 + 11)) 40 = true) (hW : WE G h0 h o r E Q) (ha0 : h a0 = some (aI G 72 f)) (hz : zb 72 f) (kk : ∀ h, WE G h0 h o r (eL' E f) Q → V l G own cc nL rt ini d kc ks Post (pc + 3) lv st h sz) : V l G own cc nL rt ini d kc ks Post pc lv (.int 72 :: .int 0 :: .ref (o + 2) :: .int 0 :: .ref a0 :: st) h sz := by
  refine V_copy pc hd k1 ac_n ac_s ac_i hd1 hw ha0 hW.1.2.2.1 (by decide) (by decide) (by decide) (Nat.le_refl 72) (Nat.le_refl 72) ?_
  have e : va_cpy f (eL E) (0 : Int32).toNatClampNeg (0 : Int32).toNatClampNeg (72 : Int32).toNatClampNeg = f := hz.cpyAll hW.1.2.2.2.2.2.2.2.1
  rw [e]
  exact kk _ (hW.sL _ hz)
theorem V_cpyS {own : String} {cc : ByteArray} {nL : Nat} {rt : Option FieldType} {ini : Bool} {d kc ks : Nat} {lv : List (Option Value)} {st : List Value} (pc : Nat) {idx a0 : Nat} {f : Nat → Int32} (hd : decode cc pc = .ok (.invokestatic idx, 3)) (k1 : zW (.methodLink own idx arraycopyName)) (hd1 : Nat.ble 1 d = true) (hw : Nat.ble ((st.map fun v => v.category).sum + (nativeFrameWords "java/lang/System" "arraycopy" 5 + 11)) 40 = true) (hW : WE G h0 h o r E Q) (ha0 : h a0 = some (aI G 8 f)) (hz : zb 8 f) (kk : ∀ h, WE G h0 h o r (eS' E f) Q → V l G own cc nL rt ini d kc ks Post (pc + 3) lv st h sz) : V l G own cc nL rt ini d kc ks Post pc lv (.int 8 :: .int 0 :: .ref (o + 3) :: .int 0 :: .ref a0 :: st) h sz := by
  refine V_copy pc hd k1 ac_n ac_s ac_i hd1 hw ha0 hW.1.2.2.2.1 (by decide) (by decide) (by decide) (Nat.le_refl 8) (Nat.le_refl 8) ?_
  have e : va_cpy f (eS E) (0 : Int32).toNatClampNeg (0 : Int32).toNatClampNeg (8 : Int32).toNatClampNeg = f := hz.cpyAll hW.1.2.2.2.2.2.2.2.2
  rw [e]
  exact kk _ (hW.sS _ hz)
set_option maxHeartbeats 1000000 in
set_option maxRecDepth 100000 in
theorem c_X0_copyFrom (hE : EA G h o r E) (hR : RA G h r Q) (hdr : r + 3 ≤ o ∨ o + 5 ≤ r) {o2 r2 : Nat} {E2 : ET} (hO : EA G h o2 r2 E2) (hdis : o + 5 ≤ o2 ∨ o2 + 5 ≤ o) (k : ∀ h1, WE G h h1 o r (eH' E2 (eH E)) Q → Post none h1 sz) : Cn l G yX0_copyFrom cX0_copyFrom 2 none 1 0 0 [.ref o, .ref o2] h sz Post := by
  refine Cn.of RX0 false (by decide) rfl (fun q => by cases q) (Nat.le_of_ble_eq_true rfl) ?_
  have hW : WE G h h o r E Q := ⟨hE, hR, Fr.rf, hdr⟩
  refine V_aload_n 0 dX0_copyFrom_0 rfl ?_
  refine V_aload_n 1 dX0_copyFrom_1 rfl ?_
  refine V_get 2 dX0_copyFrom_2 fdX0_9 (by first | exact hW.1.1 | exact hW.1.2.1 | exact hW.1.2.2.1 | exact hW.1.2.2.2.1 | exact hW.1.2.2.2.2.1 | exact hW.2.1.1 | exact hW.2.1.2.1 | exact hW.2.1.2.2.1 | exact (hO.fr hW.2.2.1 hdis).1 | exact (hO.fr hW.2.2.1 hdis).2.1 | exact (hO.fr hW.2.2.1 hdis).2.2.1 | exact (hO.fr hW.2.2.1 hdis).2.2.2.1) rfl ?_
  refine V_putEW 5 dX0_copyFrom_5 fpX0_9 hW (fun h hW => ?_)
  refine V_aload_n 8 dX0_copyFrom_8 rfl ?_
  refine V_aload_n 9 dX0_copyFrom_9 rfl ?_
  refine V_get 10 dX0_copyFrom_10 fdX0_15 (by first | exact hW.1.1 | exact hW.1.2.1 | exact hW.1.2.2.1 | exact hW.1.2.2.2.1 | exact hW.1.2.2.2.2.1 | exact hW.2.1.1 | exact hW.2.1.2.1 | exact hW.2.1.2.2.1 | exact (hO.fr hW.2.2.1 hdis).1 | exact (hO.fr hW.2.2.1 hdis).2.1 | exact (hO.fr hW.2.2.1 hdis).2.2.1 | exact (hO.fr hW.2.2.1 hdis).2.2.2.1) rfl ?_
  refine V_putEG 13 dX0_copyFrom_13 fpX0_15 hW (fun h hW => ?_)
  refine V_aload_n 16 dX0_copyFrom_16 rfl ?_
  refine V_aload_n 17 dX0_copyFrom_17 rfl ?_
  refine V_get 18 dX0_copyFrom_18 fdX0_25 (by first | exact hW.1.1 | exact hW.1.2.1 | exact hW.1.2.2.1 | exact hW.1.2.2.2.1 | exact hW.1.2.2.2.2.1 | exact hW.2.1.1 | exact hW.2.1.2.1 | exact hW.2.1.2.2.1 | exact (hO.fr hW.2.2.1 hdis).1 | exact (hO.fr hW.2.2.1 hdis).2.1 | exact (hO.fr hW.2.2.1 hdis).2.2.1 | exact (hO.fr hW.2.2.1 hdis).2.2.2.1) rfl ?_
  refine V_putEN 21 (eN E2) rfl hO.2.2.2.2.2.1 dX0_copyFrom_21 fpX0_25 hW (fun h hW => ?_)
  refine V_aload_n 24 dX0_copyFrom_24 rfl ?_
  refine V_get 25 dX0_copyFrom_25 fdX0_18 (by first | exact hW.1.1 | exact hW.1.2.1 | exact hW.1.2.2.1 | exact hW.1.2.2.2.1 | exact hW.1.2.2.2.2.1 | exact hW.2.1.1 | exact hW.2.1.2.1 | exact hW.2.1.2.2.1 | exact (hO.fr hW.2.2.1 hdis).1 | exact (hO.fr hW.2.2.1 hdis).2.1 | exact (hO.fr hW.2.2.1 hdis).2.2.1 | exact (hO.fr hW.2.2.1 hdis).2.2.2.1) rfl ?_
  refine V_iconstv 28 (0) dX0_copyFrom_28 (by decide) ?_
  refine V_aload_n 29 dX0_copyFrom_29 rfl ?_
  refine V_get 30 dX0_copyFrom_30 fdX0_18 (by first | exact hW.1.1 | exact hW.1.2.1 | exact hW.1.2.2.1 | exact hW.1.2.2.2.1 | exact hW.1.2.2.2.2.1 | exact hW.2.1.1 | exact hW.2.1.2.1 | exact hW.2.1.2.2.1 | exact (hO.fr hW.2.2.1 hdis).1 | exact (hO.fr hW.2.2.1 hdis).2.1 | exact (hO.fr hW.2.2.1 hdis).2.2.1 | exact (hO.fr hW.2.2.1 hdis).2.2.2.1) rfl ?_
  refine V_iconstv 33 (0) dX0_copyFrom_33 (by decide) ?_
  refine V_bipushv 34 (48) dX0_copyFrom_34 (by decide) ?_
  refine V_cpyC 36 dX0_copyFrom_36 acX0_38 rfl rfl hW (hO.fr hW.2.2.1 hdis).2.1 hO.2.2.2.2.2.2.1 (fun h hW => ?_)
  refine V_aload_n 39 dX0_copyFrom_39 rfl ?_
  refine V_get 40 dX0_copyFrom_40 fdX0_22 (by first | exact hW.1.1 | exact hW.1.2.1 | exact hW.1.2.2.1 | exact hW.1.2.2.2.1 | exact hW.1.2.2.2.2.1 | exact hW.2.1.1 | exact hW.2.1.2.1 | exact hW.2.1.2.2.1 | exact (hO.fr hW.2.2.1 hdis).1 | exact (hO.fr hW.2.2.1 hdis).2.1 | exact (hO.fr hW.2.2.1 hdis).2.2.1 | exact (hO.fr hW.2.2.1 hdis).2.2.2.1) rfl ?_
  refine V_iconstv 43 (0) dX0_copyFrom_43 (by decide) ?_
  refine V_aload_n 44 dX0_copyFrom_44 rfl ?_
  refine V_get 45 dX0_copyFrom_45 fdX0_22 (by first | exact hW.1.1 | exact hW.1.2.1 | exact hW.1.2.2.1 | exact hW.1.2.2.2.1 | exact hW.1.2.2.2.2.1 | exact hW.2.1.1 | exact hW.2.1.2.1 | exact hW.2.1.2.2.1 | exact (hO.fr hW.2.2.1 hdis).1 | exact (hO.fr hW.2.2.1 hdis).2.1 | exact (hO.fr hW.2.2.1 hdis).2.2.1 | exact (hO.fr hW.2.2.1 hdis).2.2.2.1) rfl ?_
  refine V_iconstv 48 (0) dX0_copyFrom_48 (by decide) ?_
  refine V_bipushv 49 (72) dX0_copyFrom_49 (by decide) ?_
  refine V_cpyL 51 dX0_copyFrom_51 acX0_38 rfl rfl hW (hO.fr hW.2.2.1 hdis).2.2.1 hO.2.2.2.2.2.2.2.1 (fun h hW => ?_)
  refine V_aload_n 54 dX0_copyFrom_54 rfl ?_
  refine V_get 55 dX0_copyFrom_55 fdX0_28 (by first | exact hW.1.1 | exact hW.1.2.1 | exact hW.1.2.2.1 | exact hW.1.2.2.2.1 | exact hW.1.2.2.2.2.1 | exact hW.2.1.1 | exact hW.2.1.2.1 | exact hW.2.1.2.2.1 | exact (hO.fr hW.2.2.1 hdis).1 | exact (hO.fr hW.2.2.1 hdis).2.1 | exact (hO.fr hW.2.2.1 hdis).2.2.1 | exact (hO.fr hW.2.2.1 hdis).2.2.2.1) rfl ?_
  refine V_iconstv 58 (0) dX0_copyFrom_58 (by decide) ?_
  refine V_aload_n 59 dX0_copyFrom_59 rfl ?_
  refine V_get 60 dX0_copyFrom_60 fdX0_28 (by first | exact hW.1.1 | exact hW.1.2.1 | exact hW.1.2.2.1 | exact hW.1.2.2.2.1 | exact hW.1.2.2.2.2.1 | exact hW.2.1.1 | exact hW.2.1.2.1 | exact hW.2.1.2.2.1 | exact (hO.fr hW.2.2.1 hdis).1 | exact (hO.fr hW.2.2.1 hdis).2.1 | exact (hO.fr hW.2.2.1 hdis).2.2.1 | exact (hO.fr hW.2.2.1 hdis).2.2.2.1) rfl ?_
  refine V_iconstv 63 (0) dX0_copyFrom_63 (by decide) ?_
  refine V_bipushv 64 (8) dX0_copyFrom_64 (by decide) ?_
  refine V_cpyS 66 dX0_copyFrom_66 acX0_38 rfl rfl hW (hO.fr hW.2.2.1 hdis).2.2.2.1 hO.2.2.2.2.2.2.2.2 (fun h hW => ?_)
  refine V_vret 69 dX0_copyFrom_69 ?_
  exact k _ hW
set_option maxHeartbeats 1000000 in
set_option maxRecDepth 100000 in
theorem lp_X0_start_2 {a b c : Int32} : ∀ i, i ≤ 6 → ∀ (h : hpT), WE G h0 h o r (stC E Q c i) Q → (∀ h, WE G h0 h o r (stC E Q c 6) Q → Post none h sz) → V l G RX0 cX0_start 5 none false 2 0 0 Post 42 [some (.ref o), some (.int a), some (.int b), some (.int c), some (.int (nI i))] [] h sz := by
  refine up_ind 6 (fun i hi ih h hW k => ?_)
  refine V_iload 42 dX0_start_42 rfl ?_
  refine V_bipushv 44 (6) dX0_start_44 (by decide) ?_
  refine V_icmp_ge 46 141 dX0_start_46 rfl (fun c_46 => ?_) (fun c_46 => ?_)
  · have e_46 : i = 6 := Nat.le_antisymm hi ((nI_leI (a := 6) (by decide) (by omega)).mp c_46)
    subst e_46
    refine V_vret 141 dX0_start_141 ?_
    exact k _ hW
  · have e_46 : i < 6 := Nat.lt_of_not_le (fun q => c_46 (nI_le (b := i) q (by omega)))
    refine V_aload_n 49 dX0_start_49 rfl ?_
    refine V_iload 50 dX0_start_50 rfl ?_
    refine V_iconstv 52 (0) dX0_start_52 (by decide) ?_
    refine V_iconstv 53 (0) dX0_start_53 (by decide) ?_
    refine V_iv3 54 dX0_start_54 kvX0_44 rfl (by first | exact hW.1.1 | exact hW.1.2.1 | exact hW.1.2.2.1 | exact hW.1.2.2.2.1 | exact hW.1.2.2.2.2.1 | exact hW.2.1.1 | exact hW.2.1.2.1 | exact hW.2.1.2.2.1) rfl rfl (c_X0_setCell hW (fun h hW => ?_))
    refine V_aload_n 57 dX0_start_57 rfl ?_
    refine V_iload 58 dX0_start_58 rfl ?_
    refine V_iconstv 60 (1) dX0_start_60 (by decide) ?_
    refine V_aload_n 61 dX0_start_61 rfl ?_
    refine V_get 62 dX0_start_62 fdX0_34 (by first | exact hW.1.1 | exact hW.1.2.1 | exact hW.1.2.2.1 | exact hW.1.2.2.2.1 | exact hW.1.2.2.2.2.1 | exact hW.2.1.1 | exact hW.2.1.2.1 | exact hW.2.1.2.2.1) rfl ?_
    refine V_iload 65 dX0_start_65 rfl ?_
    refine V_iv1 67 dX0_start_67 kvX0_48 rfl (by first | exact hW.1.1 | exact hW.1.2.1 | exact hW.1.2.2.1 | exact hW.1.2.2.2.1 | exact hW.1.2.2.2.2.1 | exact hW.2.1.1 | exact hW.2.1.2.1 | exact hW.2.1.2.2.1) rfl rfl (c_X3_senseOf hW.2.1 ?_)
    refine V_iv3 70 dX0_start_70 kvX0_44 rfl (by first | exact hW.1.1 | exact hW.1.2.1 | exact hW.1.2.2.1 | exact hW.1.2.2.2.1 | exact hW.1.2.2.2.2.1 | exact hW.2.1.1 | exact hW.2.1.2.1 | exact hW.2.1.2.2.1) rfl rfl (c_X0_setCell hW (fun h hW => ?_))
    refine V_aload_n 73 dX0_start_73 rfl ?_
    refine V_iload 74 dX0_start_74 rfl ?_
    refine V_iconstv 76 (2) dX0_start_76 (by decide) ?_
    refine V_iconstv 77 (-1) dX0_start_77 (by decide) ?_
    refine V_iv3 78 dX0_start_78 kvX0_44 rfl (by first | exact hW.1.1 | exact hW.1.2.1 | exact hW.1.2.2.1 | exact hW.1.2.2.2.1 | exact hW.1.2.2.2.2.1 | exact hW.2.1.1 | exact hW.2.1.2.1 | exact hW.2.1.2.2.1) rfl rfl (c_X0_setCell hW (fun h hW => ?_))
    refine V_aload_n 81 dX0_start_81 rfl ?_
    refine V_iload 82 dX0_start_82 rfl ?_
    refine V_iconstv 84 (3) dX0_start_84 (by decide) ?_
    refine V_iconstv 85 (-1) dX0_start_85 (by decide) ?_
    refine V_iv3 86 dX0_start_86 kvX0_44 rfl (by first | exact hW.1.1 | exact hW.1.2.1 | exact hW.1.2.2.1 | exact hW.1.2.2.2.1 | exact hW.1.2.2.2.2.1 | exact hW.2.1.1 | exact hW.2.1.2.1 | exact hW.2.1.2.2.1) rfl rfl (c_X0_setCell hW (fun h hW => ?_))
    refine V_aload_n 89 dX0_start_89 rfl ?_
    refine V_iload 90 dX0_start_90 rfl ?_
    refine V_iconstv 92 (4) dX0_start_92 (by decide) ?_
    refine V_iconstv 93 (-1) dX0_start_93 (by decide) ?_
    refine V_iv3 94 dX0_start_94 kvX0_44 rfl (by first | exact hW.1.1 | exact hW.1.2.1 | exact hW.1.2.2.1 | exact hW.1.2.2.2.1 | exact hW.1.2.2.2.2.1 | exact hW.2.1.1 | exact hW.2.1.2.1 | exact hW.2.1.2.2.1) rfl rfl (c_X0_setCell hW (fun h hW => ?_))
    refine V_aload_n 97 dX0_start_97 rfl ?_
    refine V_iload 98 dX0_start_98 rfl ?_
    refine V_iconstv 100 (5) dX0_start_100 (by decide) ?_
    refine V_iconstv 101 (0) dX0_start_101 (by decide) ?_
    refine V_iv3 102 dX0_start_102 kvX0_44 rfl (by first | exact hW.1.1 | exact hW.1.2.1 | exact hW.1.2.2.1 | exact hW.1.2.2.2.1 | exact hW.1.2.2.2.2.1 | exact hW.2.1.1 | exact hW.2.1.2.1 | exact hW.2.1.2.2.1) rfl rfl (c_X0_setCell hW (fun h hW => ?_))
    refine V_aload_n 105 dX0_start_105 rfl ?_
    refine V_iload 106 dX0_start_106 rfl ?_
    refine V_bipushv 108 (6) dX0_start_108 (by decide) ?_
    refine V_iconstv 110 (-1) dX0_start_110 (by decide) ?_
    refine V_iv3 111 dX0_start_111 kvX0_44 rfl (by first | exact hW.1.1 | exact hW.1.2.1 | exact hW.1.2.2.1 | exact hW.1.2.2.2.1 | exact hW.1.2.2.2.2.1 | exact hW.2.1.1 | exact hW.2.1.2.1 | exact hW.2.1.2.2.1) rfl rfl (c_X0_setCell hW (fun h hW => ?_))
    refine V_aload_n 114 dX0_start_114 rfl ?_
    refine V_iload 115 dX0_start_115 rfl ?_
    refine V_bipushv 117 (7) dX0_start_117 (by decide) ?_
    refine V_iload_n 119 dX0_start_119 rfl ?_
    refine V_i2l 120 dX0_start_120 ?_
    refine V_iload 121 dX0_start_121 rfl ?_
    refine V_iconstv 123 (1) dX0_start_123 (by decide) ?_
    refine V_iadd 124 dX0_start_124 ?_
    refine V_topi (nI (i + 1)) (nI_1 i) ?_
    refine V_i2l 125 dX0_start_125 ?_
    refine V_lmul 126 dX0_start_126 ?_
    refine V_ldc2 127 dX0_start_127 knX0_54 ?_
    refine V_lrem 130 dX0_start_130 (by decide) ?_
    refine V_l2i 131 dX0_start_131 ?_
    refine V_iv3 132 dX0_start_132 kvX0_44 rfl (by first | exact hW.1.1 | exact hW.1.2.1 | exact hW.1.2.2.1 | exact hW.1.2.2.2.1 | exact hW.1.2.2.2.2.1 | exact hW.2.1.1 | exact hW.2.1.2.1 | exact hW.2.1.2.2.1) rfl rfl (c_X0_setCell hW (fun h hW => ?_))
    refine V_iinc 135 (nI (i + 1)) dX0_start_135 rfl (nI_inc i) rfl rfl ?_
    refine V_goto 138 42 dX0_start_138 rfl ?_
    refine ih (i + 1) rfl (by omega) h ?_ k
    rw [← stC_step E Q c e_46]
    exact hW
set_option maxHeartbeats 1000000 in
set_option maxRecDepth 100000 in
theorem lp_X0_start_1 {a b c : Int32} : ∀ i, i ≤ 8 → ∀ (h : hpT), WE G h0 h o r (stS E i) Q → (∀ h, WE G h0 h o r (stS E 8) Q → V l G RX0 cX0_start 5 none false 2 0 0 Post 42 [some (.ref o), some (.int a), some (.int b), some (.int c), some (.int 0)] [] h sz) → V l G RX0 cX0_start 5 none false 2 0 0 Post 18 [some (.ref o), some (.int a), some (.int b), some (.int c), some (.int (nI i))] [] h sz := by
  refine up_ind 8 (fun i hi ih h hW k => ?_)
  refine V_iload 18 dX0_start_18 rfl ?_
  refine V_bipushv 20 (7) dX0_start_20 (by decide) ?_
  refine V_icmp_gt 22 39 dX0_start_22 rfl (fun c_22 => ?_) (fun c_22 => ?_)
  · have e_22 : i = 8 := by
      have := (nI_ltI (a := 7) (by decide) (by omega)).mp c_22
      omega
    subst e_22
    refine V_iconstv 39 (0) dX0_start_39 (by decide) ?_
    refine V_istore 40 dX0_start_40 rfl rfl ?_
    exact k h hW
  · have e_22 : i < 8 := by
      rcases Nat.lt_or_ge i 8 with q | q
      · exact q
      · exact absurd (nI_lt (a := 7) (b := i) (by omega) (by omega)) c_22
    refine V_aload_n 25 dX0_start_25 rfl ?_
    refine V_get 26 dX0_start_26 fdX0_28 (by first | exact hW.1.1 | exact hW.1.2.1 | exact hW.1.2.2.1 | exact hW.1.2.2.2.1 | exact hW.1.2.2.2.2.1 | exact hW.2.1.1 | exact hW.2.1.2.1 | exact hW.2.1.2.2.1) rfl ?_
    refine V_iload 29 dX0_start_29 rfl ?_
    refine V_iconstv 31 (0) dX0_start_31 (by decide) ?_
    refine V_iastS 32 i (nI_clamp (by omega)) dX0_start_32 hW (vp_in_nI e_22 (by decide)) (fun h hW => ?_)
    refine V_iinc 33 (nI (i + 1)) dX0_start_33 rfl (nI_inc i) rfl rfl ?_
    refine V_goto 36 18 dX0_start_36 rfl ?_
    refine ih (i + 1) rfl (by omega) h ?_ k
    have e : eS' (stS E i) (upd (eS (stS E i)) i 0) = stS E (i + 1) := by
      unfold stS eS'
      simp only [eS]
      congr 6
      funext q
      rw [upd_if]
      by_cases q1 : q = i
      · rw [if_pos q1, if_pos (by omega)]
      · rw [if_neg q1]
        by_cases q2 : q < i
        · rw [if_pos q2, if_pos (by omega)]
        · rw [if_neg q2, if_neg (by omega)]
    rw [← e]
    exact hW
set_option maxHeartbeats 1000000 in
set_option maxRecDepth 100000 in
theorem c_X0_start (hW : WE G h0 h o r E Q) {a b c : Int32} (k : ∀ h, WE G h0 h o r (startE Q E a b c) Q → Post none h sz) : Cn l G yX0_start cX0_start 5 none 2 0 0 [.ref o, .int a, .int b, .int c] h sz Post := by
  refine Cn.of RX0 false (by decide) rfl (fun q => by cases q) (Nat.le_of_ble_eq_true rfl) ?_
  refine V_aload_n 0 dX0_start_0 rfl ?_
  refine V_iload_n 1 dX0_start_1 rfl ?_
  refine V_putEW 2 dX0_start_2 fpX0_9 hW (fun h hW => ?_)
  refine V_aload_n 5 dX0_start_5 rfl ?_
  refine V_iload_n 6 dX0_start_6 rfl ?_
  refine V_putEG 7 dX0_start_7 fpX0_15 hW (fun h hW => ?_)
  refine V_aload_n 10 dX0_start_10 rfl ?_
  refine V_iconstv 11 (0) dX0_start_11 (by decide) ?_
  refine V_putEN 12 0 rfl (by omega) dX0_start_12 fpX0_25 hW (fun h hW => ?_)
  refine V_iconstv 15 (0) dX0_start_15 (by decide) ?_
  refine V_istore 16 dX0_start_16 rfl rfl ?_
  have hz1 := hW.1.2.2.2.2.2.2.1
  have hz2 := hW.1.2.2.2.2.2.2.2.2
  have e0 : ∀ E : ET, stS E 0 = E := fun E => by unfold stS eS'; simp
  have e8 : ∀ E : ET, zb 8 (eS E) → stS E 8 = eS' E (fun _ => 0) := fun E hz => by
    unfold stS
    congr 1
    funext q
    by_cases q2 : q < 8
    · rw [if_pos q2]
    · rw [if_neg q2]; exact hz q (by omega)
  refine lp_X0_start_1 (E := eN' (eG' (eW' E a) b) 0) 0 (by omega) h (by rw [e0]; exact hW) (fun h hW => ?_)
  rw [e8 _ hz2] at hW
  refine lp_X0_start_2 (E := eS' (eN' (eG' (eW' E a) b) 0) (fun _ => 0)) 0 (by omega) h (by rw [stC_0]; exact hW) (fun h hW => ?_)
  rw [stC_6 (eS' (eN' (eG' (eW' E a) b) 0) (fun _ => 0)) Q c hz1] at hW
  exact k h hW
end M18
