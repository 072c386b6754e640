theorem i32_lt0 {a b : Nat} (ha : a < 2 ^ 30) (hb : b < 2 ^ 30) : 0 < nI a - nI b ↔ b < a := by
  rw [Int32.lt_iff_toInt_lt, pk_sub_toInt ha hb]
  have : (0 : Int32).toInt = 0 := rfl
  omega
theorem i32_le0 {a b : Nat} (ha : a < 2 ^ 30) (hb : b < 2 ^ 30) : nI a - nI b ≤ 0 ↔ a ≤ b := by
  rw [Int32.le_iff_toInt_le, pk_sub_toInt ha hb]
  have : (0 : Int32).toInt = 0 := rfl
  omega
theorem dl3_f (A : ET) (x w : Int32) : dl3 (false, A) x w = A := if_pos rfl
theorem dl3_t (A : ET) (x w : Int32) : dl3 (true, A) x w = dl4 A (2 * w + (x &&& 1)) := if_neg (show ¬ b2i true = 0 by decide)
def st2 (E : ET) : ET := eH' E (upd (eH E) 4 (eH E 4 + 1))
theorem dl3_of (A : ET) (x w : Int32) : dl3 (to1 (false, A)) x w = st2 A := if_pos rfl
theorem dl3_ot (A : ET) (x w : Int32) : dl3 (to1 (true, A)) x w = dl4 (st2 A) (2 * w + (x &&& 1)) := if_neg (show ¬ b2i true = 0 by decide)
section M28
variable {l : Launch} {G : zGT} {h h0 : hpT} {sz : Nat} {Post : Option Value → hpT → Nat → Prop} {m r : Nat} {M M0 : MT} {Q : RG} {E : ET}
set_option maxHeartbeats 1000000 in
set_option maxRecDepth 100000 in
theorem c_X6_setX (hX : WX G h0 h m M0 M r E Q) (i w : Nat) (hi : i < Q.1) (hw : w < 10) {v : Int32} {E1 : ET} (hR : RowE (upd (M.2.2.1 3) (ctA r i w) v) r Q.1 E1) (k : ∀ h M1, WX G h0 h m M0 M1 r E1 Q → M1.1 = M.1 → M1.2.2.1 3 = upd (M.2.2.1 3) (ctA r i w) v → Post none h sz) : Cn l G yX6_set cX6_set 5 none 1 0 0 [.ref m, .int (nI r), .int (nI i), .int (nI w), .int v] h sz Post := by
  have hn := hX.2.2.2.2.2.2
  have hr := hX.2.2.2.2.2.1
  exact c_X6_set hX.1 r i w (by unfold ctA; omega) (fun h hM => k h _ (hX.row (by unfold ctA; omega) (by unfold ctA; omega) hM hR) rfl rfl)
theorem HD.of {M1 : MT} (hI : M1.1 = M.1) (hH : HD M E) : HD M1 E := by unfold HD; rw [hI]; exact hH
set_option maxHeartbeats 1000000 in
set_option maxRecDepth 100000 in
theorem c_X6_comesByPhases_0 (hX : WX G h0 h m M0 M r E Q) (i : Nat) (hi : i < Q.1) (rn : Int32) (hrn : (rn = 1 ∧ eC E (8 * i) = 1) ∨ (rn = 0 ∧ ¬ eC E (8 * i) = 1)) (hH : HD M E) (hc : eN E < 12) {x : Int32} (hln : M.1 10 = 2 * nI i + (x &&& 1)) (κ : Nat) (hκ : κ = 4 ∨ κ = 5) (hk5 : eH E 1 = nI κ) (hw3 : eW E = 3) (c_r : rn = 0) (k : ∀ h M1, WX G h0 h m M0 M1 r (dl3 (mkE E (nI i)) x (nI i)) Q → Post none h sz) : Cn l G yX6_comesByPhases cX6_comesByPhases 6 none 4 0 0 [.ref m, .int (nI r), .int (nI i), .int rn] h sz Post := by
  refine Cn.of RX6 false (by decide) rfl (fun q => by cases q) (Nat.le_of_ble_eq_true rfl) ?_
  have hn := hX.2.2.2.2.2.2
  have hr := hX.2.2.2.2.2.1
  have k0 : ∀ (E : ET), celE E (nI i) 0 = eC E (8 * i + 0) := fun E => celE_nI E (k := 0) (by omega) (by omega)
  have k1 : ∀ (E : ET), celE E (nI i) 1 = eC E (8 * i + 1) := fun E => celE_nI E (k := 1) (by omega) (by omega)
  have k2 : ∀ (E : ET), celE E (nI i) 2 = eC E (8 * i + 2) := fun E => celE_nI E (k := 2) (by omega) (by omega)
  have k3 : ∀ (E : ET), celE E (nI i) 3 = eC E (8 * i + 3) := fun E => celE_nI E (k := 3) (by omega) (by omega)
  have k4 : ∀ (E : ET), celE E (nI i) 4 = eC E (8 * i + 4) := fun E => celE_nI E (k := 4) (by omega) (by omega)
  have k5 : ∀ (E : ET), celE E (nI i) 5 = eC E (8 * i + 5) := fun E => celE_nI E (k := 5) (by omega) (by omega)
  have k6 : ∀ (E : ET), celE E (nI i) 6 = eC E (8 * i + 6) := fun E => celE_nI E (k := 6) (by omega) (by omega)
  have k7 : ∀ (E : ET), celE E (nI i) 7 = eC E (8 * i + 7) := fun E => celE_nI E (k := 7) (by omega) (by omega)
  have hr1 : ¬ rn = 0 → eC E (8 * i + 0) = 1 := fun q => by rcases hrn with ⟨a, b⟩ | ⟨a, b⟩; exact b; exact absurd a q
  have hr0 : rn = 0 → ¬ eC E (8 * i + 0) = 1 := fun q => by rcases hrn with ⟨a, b⟩ | ⟨a, b⟩; rw [a] at q; exact absurd q (by decide); exact b
  refine V_iload_n 0 dX6_comesByPhases_0 rfl ?_
  refine V_if_ne 1 10 dX6_comesByPhases_1 rfl (fun q => absurd c_r q) (fun _ => ?_)
  refine V_aload_n 4 dX6_comesByPhases_4 rfl ?_
  refine V_iload_n 5 dX6_comesByPhases_5 rfl ?_
  refine V_iv1 6 dX6_comesByPhases_6 kvX6_100 rfl (by first | exact hX.1.1.1 | exact hX.1.1.2.1 | exact hX.1.1.2.2.1 | exact hX.1.1.2.2.2.1 | exact hX.1.1.2.2.2.2.1 | exact hX.1.1.2.2.2.2.2.1 | exact hX.1.1.2.2.2.2.2.2.1 | exact hX.1.1.2.2.2.2.2.2.2.1 | exact hX.1.1.2.2.2.2.2.2.2.2.1 | exact hX.1.1.2.2.2.2.2.2.2.2.2.1 | exact hX.1.1.2.2.2.2.2.2.2.2.2.2) rfl rfl (c_X6_goesOn hX hH hc κ (by omega) hk5 hln (fun h M1 hX hI => ?_))
  refine V_vret 9 dX6_comesByPhases_9 ?_
  unfold mkE at k
  rw [k0, if_neg (hr0 c_r), dl3_t] at k
  exact k _ _ hX
set_option maxHeartbeats 1000000 in
set_option maxRecDepth 100000 in
theorem c_X6_comesByPhases_4 (hX : WX G h0 h m M0 M r E Q) (i : Nat) (hi : i < Q.1) (rn : Int32) (hrn : (rn = 1 ∧ eC E (8 * i) = 1) ∨ (rn = 0 ∧ ¬ eC E (8 * i) = 1)) (hH : HD M E) (hc : eN E < 12) {x : Int32} (hln : M.1 10 = 2 * nI i + (x &&& 1)) (κ : Nat) (hκ : κ = 4 ∨ κ = 5) (hk5 : eH E 1 = nI κ) (hw3 : eW E = 3) (c_r : ¬ rn = 0) (c_k4 : eH E 1 = 4) (k : ∀ h M1, WX G h0 h m M0 M1 r (dl3 (mkE E (nI i)) x (nI i)) Q → Post none h sz) : Cn l G yX6_comesByPhases cX6_comesByPhases 6 none 4 0 0 [.ref m, .int (nI r), .int (nI i), .int rn] h sz Post := by
  refine Cn.of RX6 false (by decide) rfl (fun q => by cases q) (Nat.le_of_ble_eq_true rfl) ?_
  have hn := hX.2.2.2.2.2.2
  have hr := hX.2.2.2.2.2.1
  have k0 : ∀ (E : ET), celE E (nI i) 0 = eC E (8 * i + 0) := fun E => celE_nI E (k := 0) (by omega) (by omega)
  have k1 : ∀ (E : ET), celE E (nI i) 1 = eC E (8 * i + 1) := fun E => celE_nI E (k := 1) (by omega) (by omega)
  have k2 : ∀ (E : ET), celE E (nI i) 2 = eC E (8 * i + 2) := fun E => celE_nI E (k := 2) (by omega) (by omega)
  have k3 : ∀ (E : ET), celE E (nI i) 3 = eC E (8 * i + 3) := fun E => celE_nI E (k := 3) (by omega) (by omega)
  have k4 : ∀ (E : ET), celE E (nI i) 4 = eC E (8 * i + 4) := fun E => celE_nI E (k := 4) (by omega) (by omega)
  have k5 : ∀ (E : ET), celE E (nI i) 5 = eC E (8 * i + 5) := fun E => celE_nI E (k := 5) (by omega) (by omega)
  have k6 : ∀ (E : ET), celE E (nI i) 6 = eC E (8 * i + 6) := fun E => celE_nI E (k := 6) (by omega) (by omega)
  have k7 : ∀ (E : ET), celE E (nI i) 7 = eC E (8 * i + 7) := fun E => celE_nI E (k := 7) (by omega) (by omega)
  have hr1 : ¬ rn = 0 → eC E (8 * i + 0) = 1 := fun q => by rcases hrn with ⟨a, b⟩ | ⟨a, b⟩; exact b; exact absurd a q
  have hr0 : rn = 0 → ¬ eC E (8 * i + 0) = 1 := fun q => by rcases hrn with ⟨a, b⟩ | ⟨a, b⟩; rw [a] at q; exact absurd q (by decide); exact b
  refine V_iload_n 0 dX6_comesByPhases_0 rfl ?_
  refine V_if_ne 1 10 dX6_comesByPhases_1 rfl (fun _ => ?_) (fun q => absurd q c_r)
  refine V_aload_n 10 dX6_comesByPhases_10 rfl ?_
  refine V_iload_n 11 dX6_comesByPhases_11 rfl ?_
  refine V_iload_n 12 dX6_comesByPhases_12 rfl ?_
  refine V_bipushv 13 (7) dX6_comesByPhases_13 (by decide) ?_
  refine V_iv3 15 dX6_comesByPhases_15 kvX6_56 rfl (by first | exact hX.1.1.1 | exact hX.1.1.2.1 | exact hX.1.1.2.2.1 | exact hX.1.1.2.2.2.1 | exact hX.1.1.2.2.2.2.1 | exact hX.1.1.2.2.2.2.2.1 | exact hX.1.1.2.2.2.2.2.2.1 | exact hX.1.1.2.2.2.2.2.2.2.1 | exact hX.1.1.2.2.2.2.2.2.2.2.1 | exact hX.1.1.2.2.2.2.2.2.2.2.2.1 | exact hX.1.1.2.2.2.2.2.2.2.2.2.2) rfl rfl (c_X6_has hX.1 r i 7 (by unfold ctA; have := hX.2.2.2.2.2; omega) ?_)
  refine V_topi _ ((hX.2.2.2.2.1.2.2.2.2.1 i hi).2.2.2.2.2.2.1 hw3) ?_
  refine V_iconstv 18 (1) dX6_comesByPhases_18 (by decide) ?_
  refine V_icmp_ne 19 26 dX6_comesByPhases_19 rfl (fun c_19 => ?_) (fun c_19 => ?_)
  · refine V_iconstv 26 (0) dX6_comesByPhases_26 (by decide) ?_
    refine V_istore 27 dX6_comesByPhases_27 rfl rfl ?_
    refine V_aload_n 29 dX6_comesByPhases_29 rfl ?_
    refine V_get 30 dX6_comesByPhases_30 fdX6_85 (by first | exact hX.1.1.1 | exact hX.1.1.2.1 | exact hX.1.1.2.2.1 | exact hX.1.1.2.2.2.1 | exact hX.1.1.2.2.2.2.1 | exact hX.1.1.2.2.2.2.2.1 | exact hX.1.1.2.2.2.2.2.2.1 | exact hX.1.1.2.2.2.2.2.2.2.1 | exact hX.1.1.2.2.2.2.2.2.2.2.1 | exact hX.1.1.2.2.2.2.2.2.2.2.2.1 | exact hX.1.1.2.2.2.2.2.2.2.2.2.2) rfl ?_
    refine V_topi (eH E 1) hH.1 ?_
    refine V_iconstv 33 (4) dX6_comesByPhases_33 (by decide) ?_
    refine V_icmp_ne 34 109 dX6_comesByPhases_34 rfl (fun q => absurd c_k4 q) (fun _ => ?_)
    refine V_iload 37 dX6_comesByPhases_37 rfl ?_
    refine V_if_ne 39 109 dX6_comesByPhases_39 rfl (fun q => absurd q (by decide)) (fun _ => ?_)
    refine V_aload_n 42 dX6_comesByPhases_42 rfl ?_
    refine V_get 43 dX6_comesByPhases_43 fdX6_88 (by first | exact hX.1.1.1 | exact hX.1.1.2.1 | exact hX.1.1.2.2.1 | exact hX.1.1.2.2.2.1 | exact hX.1.1.2.2.2.2.1 | exact hX.1.1.2.2.2.2.2.1 | exact hX.1.1.2.2.2.2.2.2.1 | exact hX.1.1.2.2.2.2.2.2.2.1 | exact hX.1.1.2.2.2.2.2.2.2.2.1 | exact hX.1.1.2.2.2.2.2.2.2.2.2.1 | exact hX.1.1.2.2.2.2.2.2.2.2.2.2) rfl ?_
    refine V_topi (eH E 2) hH.2.1 ?_
    refine V_aload_n 46 dX6_comesByPhases_46 rfl ?_
    refine V_iload_n 47 dX6_comesByPhases_47 rfl ?_
    refine V_iload_n 48 dX6_comesByPhases_48 rfl ?_
    refine V_iconstv 49 (2) dX6_comesByPhases_49 (by decide) ?_
    refine V_iv3 50 dX6_comesByPhases_50 kvX6_56 rfl (by first | exact hX.1.1.1 | exact hX.1.1.2.1 | exact hX.1.1.2.2.1 | exact hX.1.1.2.2.2.1 | exact hX.1.1.2.2.2.2.1 | exact hX.1.1.2.2.2.2.2.1 | exact hX.1.1.2.2.2.2.2.2.1 | exact hX.1.1.2.2.2.2.2.2.2.1 | exact hX.1.1.2.2.2.2.2.2.2.2.1 | exact hX.1.1.2.2.2.2.2.2.2.2.2.1 | exact hX.1.1.2.2.2.2.2.2.2.2.2.2) rfl rfl (c_X6_has hX.1 r i 2 (by unfold ctA; have := hX.2.2.2.2.2; omega) ?_)
    refine V_topi _ ((hX.2.2.2.2.1.2.2.2.2.1 i hi).2.2.1) ?_
    refine V_icmp_ne 53 69 dX6_comesByPhases_53 rfl (fun c_53 => ?_) (fun c_53 => ?_)
    · refine V_aload_n 69 dX6_comesByPhases_69 rfl ?_
      refine V_iload_n 70 dX6_comesByPhases_70 rfl ?_
      refine V_iload_n 71 dX6_comesByPhases_71 rfl ?_
      refine V_bipushv 72 (6) dX6_comesByPhases_72 (by decide) ?_
      refine V_aload_n 74 dX6_comesByPhases_74 rfl ?_
      refine V_get 75 dX6_comesByPhases_75 fdX6_88 (by first | exact hX.1.1.1 | exact hX.1.1.2.1 | exact hX.1.1.2.2.1 | exact hX.1.1.2.2.2.1 | exact hX.1.1.2.2.2.2.1 | exact hX.1.1.2.2.2.2.2.1 | exact hX.1.1.2.2.2.2.2.2.1 | exact hX.1.1.2.2.2.2.2.2.2.1 | exact hX.1.1.2.2.2.2.2.2.2.2.1 | exact hX.1.1.2.2.2.2.2.2.2.2.2.1 | exact hX.1.1.2.2.2.2.2.2.2.2.2.2) rfl ?_
      refine V_topi (eH E 2) hH.2.1 ?_
      refine V_iv4 78 dX6_comesByPhases_78 kvX6_59 rfl (by first | exact hX.1.1.1 | exact hX.1.1.2.1 | exact hX.1.1.2.2.1 | exact hX.1.1.2.2.2.1 | exact hX.1.1.2.2.2.2.1 | exact hX.1.1.2.2.2.2.2.1 | exact hX.1.1.2.2.2.2.2.2.1 | exact hX.1.1.2.2.2.2.2.2.2.1 | exact hX.1.1.2.2.2.2.2.2.2.2.1 | exact hX.1.1.2.2.2.2.2.2.2.2.2.1 | exact hX.1.1.2.2.2.2.2.2.2.2.2.2) rfl rfl (c_X6_setX hX i 6 hi (by omega) (hX.2.2.2.2.1.s6 hi hn) (fun h M1 hX hI hrow => ?_))
      replace hH := HD.of hI hH
      replace hln := (congrFun hI 10).trans hln
      have hrow6 := hrow
      refine V_aload_n 81 dX6_comesByPhases_81 rfl ?_
      refine V_iload_n 82 dX6_comesByPhases_82 rfl ?_
      refine V_iload_n 83 dX6_comesByPhases_83 rfl ?_
      refine V_bipushv 84 (7) dX6_comesByPhases_84 (by decide) ?_
      refine V_iconstv 86 (1) dX6_comesByPhases_86 (by decide) ?_
      refine V_iv4 87 dX6_comesByPhases_87 kvX6_59 rfl (by first | exact hX.1.1.1 | exact hX.1.1.2.1 | exact hX.1.1.2.2.1 | exact hX.1.1.2.2.2.1 | exact hX.1.1.2.2.2.2.1 | exact hX.1.1.2.2.2.2.2.1 | exact hX.1.1.2.2.2.2.2.2.1 | exact hX.1.1.2.2.2.2.2.2.2.1 | exact hX.1.1.2.2.2.2.2.2.2.2.1 | exact hX.1.1.2.2.2.2.2.2.2.2.2.1 | exact hX.1.1.2.2.2.2.2.2.2.2.2.2) rfl rfl (c_X6_setX hX i 7 hi (by omega) (hX.2.2.2.2.1.s7 hi hn (by rw [eW_set]; exact hw3) (fun _ => by rw [hrow6, pk_us, show (6 : Int32) = nI 6 from rfl, eC_set E (by omega) (by omega), pk_us])) (fun h M1 hX hI hrow => ?_))
      replace hH := HD.of hI hH
      replace hln := (congrFun hI 10).trans hln
      refine V_aload_n 90 dX6_comesByPhases_90 rfl ?_
      refine V_iload_n 91 dX6_comesByPhases_91 rfl ?_
      refine V_aload_n 92 dX6_comesByPhases_92 rfl ?_
      refine V_iload_n 93 dX6_comesByPhases_93 rfl ?_
      refine V_iload_n 94 dX6_comesByPhases_94 rfl ?_
      refine V_iv2 95 dX6_comesByPhases_95 kvX6_71 rfl (by first | exact hX.1.1.1 | exact hX.1.1.2.1 | exact hX.1.1.2.2.1 | exact hX.1.1.2.2.2.1 | exact hX.1.1.2.2.2.2.1 | exact hX.1.1.2.2.2.2.2.1 | exact hX.1.1.2.2.2.2.2.2.1 | exact hX.1.1.2.2.2.2.2.2.2.1 | exact hX.1.1.2.2.2.2.2.2.2.2.1 | exact hX.1.1.2.2.2.2.2.2.2.2.2.1 | exact hX.1.1.2.2.2.2.2.2.2.2.2.2) rfl rfl (c_X6_rightOf hX.1 r i (by unfold ctA; have := hX.2.2.2.2.2; omega) ?_)
      refine V_topi (2 * nI i + eC _ (8 * i + 1)) (congrArg (fun z => 2 * nI i + z) (hX.2.2.2.2.1.2.2.2.2.1 i hi).1) ?_
      refine V_iconstv 98 (5) dX6_comesByPhases_98 (by decide) ?_
      refine V_aload_n 99 dX6_comesByPhases_99 rfl ?_
      refine V_get 100 dX6_comesByPhases_100 fdX6_88 (by first | exact hX.1.1.1 | exact hX.1.1.2.1 | exact hX.1.1.2.2.1 | exact hX.1.1.2.2.2.1 | exact hX.1.1.2.2.2.2.1 | exact hX.1.1.2.2.2.2.2.1 | exact hX.1.1.2.2.2.2.2.2.1 | exact hX.1.1.2.2.2.2.2.2.2.1 | exact hX.1.1.2.2.2.2.2.2.2.2.1 | exact hX.1.1.2.2.2.2.2.2.2.2.2.1 | exact hX.1.1.2.2.2.2.2.2.2.2.2.2) rfl ?_
      refine V_topi (eH E 2) hH.2.1 ?_
      refine V_iconstv 103 (-1) dX6_comesByPhases_103 (by decide) ?_
      refine V_iconstv 104 (-1) dX6_comesByPhases_104 (by decide) ?_
      refine V_iconstv 105 (-1) dX6_comesByPhases_105 (by decide) ?_
      refine V_iv7 106 dX6_comesByPhases_106 kvX6_63 rfl (by first | exact hX.1.1.1 | exact hX.1.1.2.1 | exact hX.1.1.2.2.1 | exact hX.1.1.2.2.2.1 | exact hX.1.1.2.2.2.2.1 | exact hX.1.1.2.2.2.2.2.1 | exact hX.1.1.2.2.2.2.2.2.1 | exact hX.1.1.2.2.2.2.2.2.2.1 | exact hX.1.1.2.2.2.2.2.2.2.2.1 | exact hX.1.1.2.2.2.2.2.2.2.2.2.1 | exact hX.1.1.2.2.2.2.2.2.2.2.2.2) rfl rfl (c_X6_sends hX (by rw [eN_set, eN_set]; exact hc) 5 (by decide) (fun h M1 hX hI => ?_))
      replace hH := HD.of hI hH
      replace hln := (congrFun hI 10).trans hln
      replace hX : WX G h0 h m M0 M1 r (sndE _ _ 5 _ _ _ _) Q := hX
      refine V_aload_n 109 dX6_comesByPhases_109 rfl ?_
      refine V_get 110 dX6_comesByPhases_110 fdX6_85 (by first | exact hX.1.1.1 | exact hX.1.1.2.1 | exact hX.1.1.2.2.1 | exact hX.1.1.2.2.2.1 | exact hX.1.1.2.2.2.2.1 | exact hX.1.1.2.2.2.2.2.1 | exact hX.1.1.2.2.2.2.2.2.1 | exact hX.1.1.2.2.2.2.2.2.2.1 | exact hX.1.1.2.2.2.2.2.2.2.2.1 | exact hX.1.1.2.2.2.2.2.2.2.2.2.1 | exact hX.1.1.2.2.2.2.2.2.2.2.2.2) rfl ?_
      refine V_topi (eH E 1) hH.1 ?_
      refine V_iconstv 113 (5) dX6_comesByPhases_113 (by decide) ?_
      refine V_icmp_ne 114 215 dX6_comesByPhases_114 rfl (fun _ => ?_) (fun q => absurd (c_k4.symm.trans q) (by decide))
      refine V_vret 215 dX6_comesByPhases_215 ?_
      unfold mkE at k
      rw [k0, if_pos (hr1 c_r), k5] at k
      first
        | (rw [if_pos c_19, if_neg (fun q => absurd (c_k4.symm.trans q) (by decide)), dl3_f] at k; exact k _ _ hX)
        | (rw [if_neg c_19, if_pos c_k4] at k; unfold tfE at k; rw [k2] at k; first | (rw [if_pos c_53, dl3_f] at k; exact k _ _ hX) | (rw [if_neg c_53, srE_eq _ (by omega), dl3_f] at k; exact k _ _ hX))
        | (rw [if_neg c_19, if_neg c_k4, dl3_f] at k; exact k _ _ hX)
        | (rw [if_pos c_19, if_neg c_114, dl3_f] at k; exact k _ _ hX)
        | (rw [if_pos c_19, if_pos c_114] at k; unfold tsE at k; rw [k6, k2] at k; first | (rw [if_pos c_141, dl3_f] at k; exact k _ _ hX) | (rw [if_neg c_141, if_pos c_150, dl3_f] at k; exact k _ _ hX) | (rw [if_neg c_141, if_neg c_150] at k; unfold ts2 at k; rw [k3, srE_eq _ (by omega), dl3_f] at k; exact k _ _ hX))
    · refine V_aload_n 56 dX6_comesByPhases_56 rfl ?_
      refine V_iload_n 57 dX6_comesByPhases_57 rfl ?_
      refine V_iload_n 58 dX6_comesByPhases_58 rfl ?_
      refine V_aload_n 59 dX6_comesByPhases_59 rfl ?_
      refine V_get 60 dX6_comesByPhases_60 fdX6_88 (by first | exact hX.1.1.1 | exact hX.1.1.2.1 | exact hX.1.1.2.2.1 | exact hX.1.1.2.2.2.1 | exact hX.1.1.2.2.2.2.1 | exact hX.1.1.2.2.2.2.2.1 | exact hX.1.1.2.2.2.2.2.2.1 | exact hX.1.1.2.2.2.2.2.2.2.1 | exact hX.1.1.2.2.2.2.2.2.2.2.1 | exact hX.1.1.2.2.2.2.2.2.2.2.2.1 | exact hX.1.1.2.2.2.2.2.2.2.2.2.2) rfl ?_
      refine V_topi (eH E 2) hH.2.1 ?_
      refine V_iv3 63 dX6_comesByPhases_63 kvX6_104 rfl (by first | exact hX.1.1.1 | exact hX.1.1.2.1 | exact hX.1.1.2.2.1 | exact hX.1.1.2.2.2.1 | exact hX.1.1.2.2.2.2.1 | exact hX.1.1.2.2.2.2.2.1 | exact hX.1.1.2.2.2.2.2.2.1 | exact hX.1.1.2.2.2.2.2.2.2.1 | exact hX.1.1.2.2.2.2.2.2.2.2.1 | exact hX.1.1.2.2.2.2.2.2.2.2.2.1 | exact hX.1.1.2.2.2.2.2.2.2.2.2.2) rfl rfl (c_X6_heads hX i hi hc (fun h M1 hX hI => ?_))
      replace hH := HD.of hI hH
      replace hln := (congrFun hI 10).trans hln
      refine V_goto 66 109 dX6_comesByPhases_66 rfl ?_
      refine V_aload_n 109 dX6_comesByPhases_109 rfl ?_
      refine V_get 110 dX6_comesByPhases_110 fdX6_85 (by first | exact hX.1.1.1 | exact hX.1.1.2.1 | exact hX.1.1.2.2.1 | exact hX.1.1.2.2.2.1 | exact hX.1.1.2.2.2.2.1 | exact hX.1.1.2.2.2.2.2.1 | exact hX.1.1.2.2.2.2.2.2.1 | exact hX.1.1.2.2.2.2.2.2.2.1 | exact hX.1.1.2.2.2.2.2.2.2.2.1 | exact hX.1.1.2.2.2.2.2.2.2.2.2.1 | exact hX.1.1.2.2.2.2.2.2.2.2.2.2) rfl ?_
      refine V_topi (eH E 1) hH.1 ?_
      refine V_iconstv 113 (5) dX6_comesByPhases_113 (by decide) ?_
      refine V_icmp_ne 114 215 dX6_comesByPhases_114 rfl (fun _ => ?_) (fun q => absurd (c_k4.symm.trans q) (by decide))
      refine V_vret 215 dX6_comesByPhases_215 ?_
      unfold mkE at k
      rw [k0, if_pos (hr1 c_r), k5] at k
      first
        | (rw [if_pos c_19, if_neg (fun q => absurd (c_k4.symm.trans q) (by decide)), dl3_f] at k; exact k _ _ hX)
        | (rw [if_neg c_19, if_pos c_k4] at k; unfold tfE at k; rw [k2] at k; first | (rw [if_pos c_53, dl3_f] at k; exact k _ _ hX) | (rw [if_neg c_53, srE_eq _ (by omega), dl3_f] at k; exact k _ _ hX))
        | (rw [if_neg c_19, if_neg c_k4, dl3_f] at k; exact k _ _ hX)
        | (rw [if_pos c_19, if_neg c_114, dl3_f] at k; exact k _ _ hX)
        | (rw [if_pos c_19, if_pos c_114] at k; unfold tsE at k; rw [k6, k2] at k; first | (rw [if_pos c_141, dl3_f] at k; exact k _ _ hX) | (rw [if_neg c_141, if_pos c_150, dl3_f] at k; exact k _ _ hX) | (rw [if_neg c_141, if_neg c_150] at k; unfold ts2 at k; rw [k3, srE_eq _ (by omega), dl3_f] at k; exact k _ _ hX))
  · refine V_iconstv 22 (1) dX6_comesByPhases_22 (by decide) ?_
    refine V_goto 23 27 dX6_comesByPhases_23 rfl ?_
    refine V_istore 27 dX6_comesByPhases_27 rfl rfl ?_
    refine V_aload_n 29 dX6_comesByPhases_29 rfl ?_
    refine V_get 30 dX6_comesByPhases_30 fdX6_85 (by first | exact hX.1.1.1 | exact hX.1.1.2.1 | exact hX.1.1.2.2.1 | exact hX.1.1.2.2.2.1 | exact hX.1.1.2.2.2.2.1 | exact hX.1.1.2.2.2.2.2.1 | exact hX.1.1.2.2.2.2.2.2.1 | exact hX.1.1.2.2.2.2.2.2.2.1 | exact hX.1.1.2.2.2.2.2.2.2.2.1 | exact hX.1.1.2.2.2.2.2.2.2.2.2.1 | exact hX.1.1.2.2.2.2.2.2.2.2.2.2) rfl ?_
    refine V_topi (eH E 1) hH.1 ?_
    refine V_iconstv 33 (4) dX6_comesByPhases_33 (by decide) ?_
    refine V_icmp_ne 34 109 dX6_comesByPhases_34 rfl (fun q => absurd c_k4 q) (fun _ => ?_)
    refine V_iload 37 dX6_comesByPhases_37 rfl ?_
    refine V_if_ne 39 109 dX6_comesByPhases_39 rfl (fun _ => ?_) (fun q => absurd q (by decide))
    refine V_aload_n 109 dX6_comesByPhases_109 rfl ?_
    refine V_get 110 dX6_comesByPhases_110 fdX6_85 (by first | exact hX.1.1.1 | exact hX.1.1.2.1 | exact hX.1.1.2.2.1 | exact hX.1.1.2.2.2.1 | exact hX.1.1.2.2.2.2.1 | exact hX.1.1.2.2.2.2.2.1 | exact hX.1.1.2.2.2.2.2.2.1 | exact hX.1.1.2.2.2.2.2.2.2.1 | exact hX.1.1.2.2.2.2.2.2.2.2.1 | exact hX.1.1.2.2.2.2.2.2.2.2.2.1 | exact hX.1.1.2.2.2.2.2.2.2.2.2.2) rfl ?_
    refine V_topi (eH E 1) hH.1 ?_
    refine V_iconstv 113 (5) dX6_comesByPhases_113 (by decide) ?_
    refine V_icmp_ne 114 215 dX6_comesByPhases_114 rfl (fun _ => ?_) (fun q => absurd (c_k4.symm.trans q) (by decide))
    refine V_vret 215 dX6_comesByPhases_215 ?_
    unfold mkE at k
    rw [k0, if_pos (hr1 c_r), k5] at k
    first
      | (rw [if_pos c_19, if_neg (fun q => absurd (c_k4.symm.trans q) (by decide)), dl3_f] at k; exact k _ _ hX)
      | (rw [if_neg c_19, if_pos c_k4] at k; unfold tfE at k; rw [k2] at k; first | (rw [if_pos c_53, dl3_f] at k; exact k _ _ hX) | (rw [if_neg c_53, srE_eq _ (by omega), dl3_f] at k; exact k _ _ hX))
      | (rw [if_neg c_19, if_neg c_k4, dl3_f] at k; exact k _ _ hX)
      | (rw [if_pos c_19, if_neg c_114, dl3_f] at k; exact k _ _ hX)
      | (rw [if_pos c_19, if_pos c_114] at k; unfold tsE at k; rw [k6, k2] at k; first | (rw [if_pos c_141, dl3_f] at k; exact k _ _ hX) | (rw [if_neg c_141, if_pos c_150, dl3_f] at k; exact k _ _ hX) | (rw [if_neg c_141, if_neg c_150] at k; unfold ts2 at k; rw [k3, srE_eq _ (by omega), dl3_f] at k; exact k _ _ hX))
set_option maxHeartbeats 1000000 in
set_option maxRecDepth 100000 in
theorem c_X6_comesByPhases_5 (hX : WX G h0 h m M0 M r E Q) (i : Nat) (hi : i < Q.1) (rn : Int32) (hrn : (rn = 1 ∧ eC E (8 * i) = 1) ∨ (rn = 0 ∧ ¬ eC E (8 * i) = 1)) (hH : HD M E) (hc : eN E < 12) {x : Int32} (hln : M.1 10 = 2 * nI i + (x &&& 1)) (κ : Nat) (hκ : κ = 4 ∨ κ = 5) (hk5 : eH E 1 = nI κ) (hw3 : eW E = 3) (c_r : ¬ rn = 0) (c_k4 : ¬ eH E 1 = 4) (k : ∀ h M1, WX G h0 h m M0 M1 r (dl3 (mkE E (nI i)) x (nI i)) Q → Post none h sz) : Cn l G yX6_comesByPhases cX6_comesByPhases 6 none 4 0 0 [.ref m, .int (nI r), .int (nI i), .int rn] h sz Post := by
  refine Cn.of RX6 false (by decide) rfl (fun q => by cases q) (Nat.le_of_ble_eq_true rfl) ?_
  have hn := hX.2.2.2.2.2.2
  have hr := hX.2.2.2.2.2.1
  have k0 : ∀ (E : ET), celE E (nI i) 0 = eC E (8 * i + 0) := fun E => celE_nI E (k := 0) (by omega) (by omega)
  have k1 : ∀ (E : ET), celE E (nI i) 1 = eC E (8 * i + 1) := fun E => celE_nI E (k := 1) (by omega) (by omega)
  have k2 : ∀ (E : ET), celE E (nI i) 2 = eC E (8 * i + 2) := fun E => celE_nI E (k := 2) (by omega) (by omega)
  have k3 : ∀ (E : ET), celE E (nI i) 3 = eC E (8 * i + 3) := fun E => celE_nI E (k := 3) (by omega) (by omega)
  have k4 : ∀ (E : ET), celE E (nI i) 4 = eC E (8 * i + 4) := fun E => celE_nI E (k := 4) (by omega) (by omega)
  have k5 : ∀ (E : ET), celE E (nI i) 5 = eC E (8 * i + 5) := fun E => celE_nI E (k := 5) (by omega) (by omega)
  have k6 : ∀ (E : ET), celE E (nI i) 6 = eC E (8 * i + 6) := fun E => celE_nI E (k := 6) (by omega) (by omega)
  have k7 : ∀ (E : ET), celE E (nI i) 7 = eC E (8 * i + 7) := fun E => celE_nI E (k := 7) (by omega) (by omega)
  have hr1 : ¬ rn = 0 → eC E (8 * i + 0) = 1 := fun q => by rcases hrn with ⟨a, b⟩ | ⟨a, b⟩; exact b; exact absurd a q
  have hr0 : rn = 0 → ¬ eC E (8 * i + 0) = 1 := fun q => by rcases hrn with ⟨a, b⟩ | ⟨a, b⟩; rw [a] at q; exact absurd q (by decide); exact b
  refine V_iload_n 0 dX6_comesByPhases_0 rfl ?_
  refine V_if_ne 1 10 dX6_comesByPhases_1 rfl (fun _ => ?_) (fun q => absurd q c_r)
  refine V_aload_n 10 dX6_comesByPhases_10 rfl ?_
  refine V_iload_n 11 dX6_comesByPhases_11 rfl ?_
  refine V_iload_n 12 dX6_comesByPhases_12 rfl ?_
  refine V_bipushv 13 (7) dX6_comesByPhases_13 (by decide) ?_
  refine V_iv3 15 dX6_comesByPhases_15 kvX6_56 rfl (by first | exact hX.1.1.1 | exact hX.1.1.2.1 | exact hX.1.1.2.2.1 | exact hX.1.1.2.2.2.1 | exact hX.1.1.2.2.2.2.1 | exact hX.1.1.2.2.2.2.2.1 | exact hX.1.1.2.2.2.2.2.2.1 | exact hX.1.1.2.2.2.2.2.2.2.1 | exact hX.1.1.2.2.2.2.2.2.2.2.1 | exact hX.1.1.2.2.2.2.2.2.2.2.2.1 | exact hX.1.1.2.2.2.2.2.2.2.2.2.2) rfl rfl (c_X6_has hX.1 r i 7 (by unfold ctA; have := hX.2.2.2.2.2; omega) ?_)
  refine V_topi _ ((hX.2.2.2.2.1.2.2.2.2.1 i hi).2.2.2.2.2.2.1 hw3) ?_
  refine V_iconstv 18 (1) dX6_comesByPhases_18 (by decide) ?_
  refine V_icmp_ne 19 26 dX6_comesByPhases_19 rfl (fun c_19 => ?_) (fun c_19 => ?_)
  · refine V_iconstv 26 (0) dX6_comesByPhases_26 (by decide) ?_
    refine V_istore 27 dX6_comesByPhases_27 rfl rfl ?_
    refine V_aload_n 29 dX6_comesByPhases_29 rfl ?_
    refine V_get 30 dX6_comesByPhases_30 fdX6_85 (by first | exact hX.1.1.1 | exact hX.1.1.2.1 | exact hX.1.1.2.2.1 | exact hX.1.1.2.2.2.1 | exact hX.1.1.2.2.2.2.1 | exact hX.1.1.2.2.2.2.2.1 | exact hX.1.1.2.2.2.2.2.2.1 | exact hX.1.1.2.2.2.2.2.2.2.1 | exact hX.1.1.2.2.2.2.2.2.2.2.1 | exact hX.1.1.2.2.2.2.2.2.2.2.2.1 | exact hX.1.1.2.2.2.2.2.2.2.2.2.2) rfl ?_
    refine V_topi (eH E 1) hH.1 ?_
    refine V_iconstv 33 (4) dX6_comesByPhases_33 (by decide) ?_
    refine V_icmp_ne 34 109 dX6_comesByPhases_34 rfl (fun _ => ?_) (fun q => absurd q c_k4)
    refine V_aload_n 109 dX6_comesByPhases_109 rfl ?_
    refine V_get 110 dX6_comesByPhases_110 fdX6_85 (by first | exact hX.1.1.1 | exact hX.1.1.2.1 | exact hX.1.1.2.2.1 | exact hX.1.1.2.2.2.1 | exact hX.1.1.2.2.2.2.1 | exact hX.1.1.2.2.2.2.2.1 | exact hX.1.1.2.2.2.2.2.2.1 | exact hX.1.1.2.2.2.2.2.2.2.1 | exact hX.1.1.2.2.2.2.2.2.2.2.1 | exact hX.1.1.2.2.2.2.2.2.2.2.2.1 | exact hX.1.1.2.2.2.2.2.2.2.2.2.2) rfl ?_
    refine V_topi (eH E 1) hH.1 ?_
    refine V_iconstv 113 (5) dX6_comesByPhases_113 (by decide) ?_
    refine V_icmp_ne 114 215 dX6_comesByPhases_114 rfl (fun c_114 => ?_) (fun c_114 => ?_)
    · refine V_vret 215 dX6_comesByPhases_215 ?_
      unfold mkE at k
      rw [k0, if_pos (hr1 c_r), k5] at k
      first
        | (rw [if_pos c_19, if_neg (fun q => absurd (c_k4.symm.trans q) (by decide)), dl3_f] at k; exact k _ _ hX)
        | (rw [if_neg c_19, if_pos c_k4] at k; unfold tfE at k; rw [k2] at k; first | (rw [if_pos c_53, dl3_f] at k; exact k _ _ hX) | (rw [if_neg c_53, srE_eq _ (by omega), dl3_f] at k; exact k _ _ hX))
        | (rw [if_neg c_19, if_neg c_k4, dl3_f] at k; exact k _ _ hX)
        | (rw [if_pos c_19, if_neg c_114, dl3_f] at k; exact k _ _ hX)
        | (rw [if_pos c_19, if_pos c_114] at k; unfold tsE at k; rw [k6, k2] at k; first | (rw [if_pos c_141, dl3_f] at k; exact k _ _ hX) | (rw [if_neg c_141, if_pos c_150, dl3_f] at k; exact k _ _ hX) | (rw [if_neg c_141, if_neg c_150] at k; unfold ts2 at k; rw [k3, srE_eq _ (by omega), dl3_f] at k; exact k _ _ hX))
    · refine V_iload 117 dX6_comesByPhases_117 rfl ?_
      refine V_if_eq 119 215 dX6_comesByPhases_119 rfl (fun _ => ?_) (fun q => absurd q (by decide))
      refine V_vret 215 dX6_comesByPhases_215 ?_
      unfold mkE at k
      rw [k0, if_pos (hr1 c_r), k5] at k
      first
        | (rw [if_pos c_19, if_neg (fun q => absurd (c_k4.symm.trans q) (by decide)), dl3_f] at k; exact k _ _ hX)
        | (rw [if_neg c_19, if_pos c_k4] at k; unfold tfE at k; rw [k2] at k; first | (rw [if_pos c_53, dl3_f] at k; exact k _ _ hX) | (rw [if_neg c_53, srE_eq _ (by omega), dl3_f] at k; exact k _ _ hX))
        | (rw [if_neg c_19, if_neg c_k4, dl3_f] at k; exact k _ _ hX)
        | (rw [if_pos c_19, if_neg c_114, dl3_f] at k; exact k _ _ hX)
        | (rw [if_pos c_19, if_pos c_114] at k; unfold tsE at k; rw [k6, k2] at k; first | (rw [if_pos c_141, dl3_f] at k; exact k _ _ hX) | (rw [if_neg c_141, if_pos c_150, dl3_f] at k; exact k _ _ hX) | (rw [if_neg c_141, if_neg c_150] at k; unfold ts2 at k; rw [k3, srE_eq _ (by omega), dl3_f] at k; exact k _ _ hX))
  · refine V_iconstv 22 (1) dX6_comesByPhases_22 (by decide) ?_
    refine V_goto 23 27 dX6_comesByPhases_23 rfl ?_
    refine V_istore 27 dX6_comesByPhases_27 rfl rfl ?_
    refine V_aload_n 29 dX6_comesByPhases_29 rfl ?_
    refine V_get 30 dX6_comesByPhases_30 fdX6_85 (by first | exact hX.1.1.1 | exact hX.1.1.2.1 | exact hX.1.1.2.2.1 | exact hX.1.1.2.2.2.1 | exact hX.1.1.2.2.2.2.1 | exact hX.1.1.2.2.2.2.2.1 | exact hX.1.1.2.2.2.2.2.2.1 | exact hX.1.1.2.2.2.2.2.2.2.1 | exact hX.1.1.2.2.2.2.2.2.2.2.1 | exact hX.1.1.2.2.2.2.2.2.2.2.2.1 | exact hX.1.1.2.2.2.2.2.2.2.2.2.2) rfl ?_
    refine V_topi (eH E 1) hH.1 ?_
    refine V_iconstv 33 (4) dX6_comesByPhases_33 (by decide) ?_
    refine V_icmp_ne 34 109 dX6_comesByPhases_34 rfl (fun _ => ?_) (fun q => absurd q c_k4)
    refine V_aload_n 109 dX6_comesByPhases_109 rfl ?_
    refine V_get 110 dX6_comesByPhases_110 fdX6_85 (by first | exact hX.1.1.1 | exact hX.1.1.2.1 | exact hX.1.1.2.2.1 | exact hX.1.1.2.2.2.1 | exact hX.1.1.2.2.2.2.1 | exact hX.1.1.2.2.2.2.2.1 | exact hX.1.1.2.2.2.2.2.2.1 | exact hX.1.1.2.2.2.2.2.2.2.1 | exact hX.1.1.2.2.2.2.2.2.2.2.1 | exact hX.1.1.2.2.2.2.2.2.2.2.2.1 | exact hX.1.1.2.2.2.2.2.2.2.2.2.2) rfl ?_
    refine V_topi (eH E 1) hH.1 ?_
    refine V_iconstv 113 (5) dX6_comesByPhases_113 (by decide) ?_
    refine V_icmp_ne 114 215 dX6_comesByPhases_114 rfl (fun c_114 => ?_) (fun c_114 => ?_)
    · refine V_vret 215 dX6_comesByPhases_215 ?_
      unfold mkE at k
      rw [k0, if_pos (hr1 c_r), k5] at k
      first
        | (rw [if_pos c_19, if_neg (fun q => absurd (c_k4.symm.trans q) (by decide)), dl3_f] at k; exact k _ _ hX)
        | (rw [if_neg c_19, if_pos c_k4] at k; unfold tfE at k; rw [k2] at k; first | (rw [if_pos c_53, dl3_f] at k; exact k _ _ hX) | (rw [if_neg c_53, srE_eq _ (by omega), dl3_f] at k; exact k _ _ hX))
        | (rw [if_neg c_19, if_neg c_k4, dl3_f] at k; exact k _ _ hX)
        | (rw [if_pos c_19, if_neg c_114, dl3_f] at k; exact k _ _ hX)
        | (rw [if_pos c_19, if_pos c_114] at k; unfold tsE at k; rw [k6, k2] at k; first | (rw [if_pos c_141, dl3_f] at k; exact k _ _ hX) | (rw [if_neg c_141, if_pos c_150, dl3_f] at k; exact k _ _ hX) | (rw [if_neg c_141, if_neg c_150] at k; unfold ts2 at k; rw [k3, srE_eq _ (by omega), dl3_f] at k; exact k _ _ hX))
    · refine V_iload 117 dX6_comesByPhases_117 rfl ?_
      refine V_if_eq 119 215 dX6_comesByPhases_119 rfl (fun q => absurd q (by decide)) (fun _ => ?_)
      refine V_aload_n 122 dX6_comesByPhases_122 rfl ?_
      refine V_iload_n 123 dX6_comesByPhases_123 rfl ?_
      refine V_iload_n 124 dX6_comesByPhases_124 rfl ?_
      refine V_bipushv 125 (6) dX6_comesByPhases_125 (by decide) ?_
      refine V_iv3 127 dX6_comesByPhases_127 kvX6_56 rfl (by first | exact hX.1.1.1 | exact hX.1.1.2.1 | exact hX.1.1.2.2.1 | exact hX.1.1.2.2.2.1 | exact hX.1.1.2.2.2.2.1 | exact hX.1.1.2.2.2.2.2.1 | exact hX.1.1.2.2.2.2.2.2.1 | exact hX.1.1.2.2.2.2.2.2.2.1 | exact hX.1.1.2.2.2.2.2.2.2.2.1 | exact hX.1.1.2.2.2.2.2.2.2.2.2.1 | exact hX.1.1.2.2.2.2.2.2.2.2.2.2) rfl rfl (c_X6_has hX.1 r i 6 (by unfold ctA; have := hX.2.2.2.2.2; omega) ?_)
      refine V_topi _ ((hX.2.2.2.2.1.2.2.2.2.1 i hi).2.2.2.2.2.2.2.1 hw3 c_19) ?_
      refine V_istore 130 dX6_comesByPhases_130 rfl rfl ?_
      refine V_iload 132 dX6_comesByPhases_132 rfl ?_
      refine V_aload_n 134 dX6_comesByPhases_134 rfl ?_
      refine V_iload_n 135 dX6_comesByPhases_135 rfl ?_
      refine V_iload_n 136 dX6_comesByPhases_136 rfl ?_
      refine V_iconstv 137 (2) dX6_comesByPhases_137 (by decide) ?_
      refine V_iv3 138 dX6_comesByPhases_138 kvX6_56 rfl (by first | exact hX.1.1.1 | exact hX.1.1.2.1 | exact hX.1.1.2.2.1 | exact hX.1.1.2.2.2.1 | exact hX.1.1.2.2.2.2.1 | exact hX.1.1.2.2.2.2.2.1 | exact hX.1.1.2.2.2.2.2.2.1 | exact hX.1.1.2.2.2.2.2.2.2.1 | exact hX.1.1.2.2.2.2.2.2.2.2.1 | exact hX.1.1.2.2.2.2.2.2.2.2.2.1 | exact hX.1.1.2.2.2.2.2.2.2.2.2.2) rfl rfl (c_X6_has hX.1 r i 2 (by unfold ctA; have := hX.2.2.2.2.2; omega) ?_)
      refine V_topi _ ((hX.2.2.2.2.1.2.2.2.2.1 i hi).2.2.1) ?_
      refine V_icmp_le 141 207 dX6_comesByPhases_141 rfl (fun c_141 => ?_) (fun c_141 => ?_)
      · refine V_aload_n 207 dX6_comesByPhases_207 rfl ?_
        refine V_iload_n 208 dX6_comesByPhases_208 rfl ?_
        refine V_iload_n 209 dX6_comesByPhases_209 rfl ?_
        refine V_iconstv 210 (1) dX6_comesByPhases_210 (by decide) ?_
        refine V_iconstv 211 (2) dX6_comesByPhases_211 (by decide) ?_
        refine V_iv4 212 dX6_comesByPhases_212 kvX6_59 rfl (by first | exact hX.1.1.1 | exact hX.1.1.2.1 | exact hX.1.1.2.2.1 | exact hX.1.1.2.2.2.1 | exact hX.1.1.2.2.2.2.1 | exact hX.1.1.2.2.2.2.2.1 | exact hX.1.1.2.2.2.2.2.2.1 | exact hX.1.1.2.2.2.2.2.2.2.1 | exact hX.1.1.2.2.2.2.2.2.2.2.1 | exact hX.1.1.2.2.2.2.2.2.2.2.2.1 | exact hX.1.1.2.2.2.2.2.2.2.2.2.2) rfl rfl (c_X6_setX hX i 1 hi (by omega) (show RowE _ _ _ (setE _ (nI i) 0 _) from hX.2.2.2.2.1.st hi hn 1 0 (by omega)) (fun h M1 hX hI hrow => ?_))
        replace hH := HD.of hI hH
        replace hln := (congrFun hI 10).trans hln
        refine V_vret 215 dX6_comesByPhases_215 ?_
        unfold mkE at k
        rw [k0, if_pos (hr1 c_r), k5] at k
        first
          | (rw [if_pos c_19, if_neg (fun q => absurd (c_k4.symm.trans q) (by decide)), dl3_f] at k; exact k _ _ hX)
          | (rw [if_neg c_19, if_pos c_k4] at k; unfold tfE at k; rw [k2] at k; first | (rw [if_pos c_53, dl3_f] at k; exact k _ _ hX) | (rw [if_neg c_53, srE_eq _ (by omega), dl3_f] at k; exact k _ _ hX))
          | (rw [if_neg c_19, if_neg c_k4, dl3_f] at k; exact k _ _ hX)
          | (rw [if_pos c_19, if_neg c_114, dl3_f] at k; exact k _ _ hX)
          | (rw [if_pos c_19, if_pos c_114] at k; unfold tsE at k; rw [k6, k2] at k; first | (rw [if_pos c_141, dl3_f] at k; exact k _ _ hX) | (rw [if_neg c_141, if_pos c_150, dl3_f] at k; exact k _ _ hX) | (rw [if_neg c_141, if_neg c_150] at k; unfold ts2 at k; rw [k3, srE_eq _ (by omega), dl3_f] at k; exact k _ _ hX))
      · refine V_iload 144 dX6_comesByPhases_144 rfl ?_
        refine V_aload_n 146 dX6_comesByPhases_146 rfl ?_
        refine V_get 147 dX6_comesByPhases_147 fdX6_88 (by first | exact hX.1.1.1 | exact hX.1.1.2.1 | exact hX.1.1.2.2.1 | exact hX.1.1.2.2.2.1 | exact hX.1.1.2.2.2.2.1 | exact hX.1.1.2.2.2.2.2.1 | exact hX.1.1.2.2.2.2.2.2.1 | exact hX.1.1.2.2.2.2.2.2.2.1 | exact hX.1.1.2.2.2.2.2.2.2.2.1 | exact hX.1.1.2.2.2.2.2.2.2.2.2.1 | exact hX.1.1.2.2.2.2.2.2.2.2.2.2) rfl ?_
        refine V_topi (eH E 2) hH.2.1 ?_
        refine V_icmp_le 150 207 dX6_comesByPhases_150 rfl (fun c_150 => ?_) (fun c_150 => ?_)
        · refine V_aload_n 207 dX6_comesByPhases_207 rfl ?_
          refine V_iload_n 208 dX6_comesByPhases_208 rfl ?_
          refine V_iload_n 209 dX6_comesByPhases_209 rfl ?_
          refine V_iconstv 210 (1) dX6_comesByPhases_210 (by decide) ?_
          refine V_iconstv 211 (2) dX6_comesByPhases_211 (by decide) ?_
          refine V_iv4 212 dX6_comesByPhases_212 kvX6_59 rfl (by first | exact hX.1.1.1 | exact hX.1.1.2.1 | exact hX.1.1.2.2.1 | exact hX.1.1.2.2.2.1 | exact hX.1.1.2.2.2.2.1 | exact hX.1.1.2.2.2.2.2.1 | exact hX.1.1.2.2.2.2.2.2.1 | exact hX.1.1.2.2.2.2.2.2.2.1 | exact hX.1.1.2.2.2.2.2.2.2.2.1 | exact hX.1.1.2.2.2.2.2.2.2.2.2.1 | exact hX.1.1.2.2.2.2.2.2.2.2.2.2) rfl rfl (c_X6_setX hX i 1 hi (by omega) (show RowE _ _ _ (setE _ (nI i) 0 _) from hX.2.2.2.2.1.st hi hn 1 0 (by omega)) (fun h M1 hX hI hrow => ?_))
          replace hH := HD.of hI hH
          replace hln := (congrFun hI 10).trans hln
          refine V_vret 215 dX6_comesByPhases_215 ?_
          unfold mkE at k
          rw [k0, if_pos (hr1 c_r), k5] at k
          first
            | (rw [if_pos c_19, if_neg (fun q => absurd (c_k4.symm.trans q) (by decide)), dl3_f] at k; exact k _ _ hX)
            | (rw [if_neg c_19, if_pos c_k4] at k; unfold tfE at k; rw [k2] at k; first | (rw [if_pos c_53, dl3_f] at k; exact k _ _ hX) | (rw [if_neg c_53, srE_eq _ (by omega), dl3_f] at k; exact k _ _ hX))
            | (rw [if_neg c_19, if_neg c_k4, dl3_f] at k; exact k _ _ hX)
            | (rw [if_pos c_19, if_neg c_114, dl3_f] at k; exact k _ _ hX)
            | (rw [if_pos c_19, if_pos c_114] at k; unfold tsE at k; rw [k6, k2] at k; first | (rw [if_pos c_141, dl3_f] at k; exact k _ _ hX) | (rw [if_neg c_141, if_pos c_150, dl3_f] at k; exact k _ _ hX) | (rw [if_neg c_141, if_neg c_150] at k; unfold ts2 at k; rw [k3, srE_eq _ (by omega), dl3_f] at k; exact k _ _ hX))
        · refine V_aload_n 153 dX6_comesByPhases_153 rfl ?_
          refine V_iload_n 154 dX6_comesByPhases_154 rfl ?_
          refine V_iload_n 155 dX6_comesByPhases_155 rfl ?_
          refine V_iconstv 156 (2) dX6_comesByPhases_156 (by decide) ?_
          refine V_iload 157 dX6_comesByPhases_157 rfl ?_
          refine V_iv4 159 dX6_comesByPhases_159 kvX6_59 rfl (by first | exact hX.1.1.1 | exact hX.1.1.2.1 | exact hX.1.1.2.2.1 | exact hX.1.1.2.2.2.1 | exact hX.1.1.2.2.2.2.1 | exact hX.1.1.2.2.2.2.2.1 | exact hX.1.1.2.2.2.2.2.2.1 | exact hX.1.1.2.2.2.2.2.2.2.1 | exact hX.1.1.2.2.2.2.2.2.2.2.1 | exact hX.1.1.2.2.2.2.2.2.2.2.2.1 | exact hX.1.1.2.2.2.2.2.2.2.2.2.2) rfl rfl (c_X6_setX hX i 2 hi (by omega) (show RowE _ _ _ (setE _ (nI i) 2 _) from hX.2.2.2.2.1.st hi hn 2 2 (by omega)) (fun h M1 hX hI hrow => ?_))
          replace hH := HD.of hI hH
          replace hln := (congrFun hI 10).trans hln
          refine V_aload_n 162 dX6_comesByPhases_162 rfl ?_
          refine V_iload_n 163 dX6_comesByPhases_163 rfl ?_
          refine V_iload_n 164 dX6_comesByPhases_164 rfl ?_
          refine V_iconstv 165 (3) dX6_comesByPhases_165 (by decide) ?_
          refine V_aload_n 166 dX6_comesByPhases_166 rfl ?_
          refine V_iload_n 167 dX6_comesByPhases_167 rfl ?_
          refine V_iload_n 168 dX6_comesByPhases_168 rfl ?_
          refine V_iconstv 169 (3) dX6_comesByPhases_169 (by decide) ?_
          refine V_iv3 170 dX6_comesByPhases_170 kvX6_56 rfl (by first | exact hX.1.1.1 | exact hX.1.1.2.1 | exact hX.1.1.2.2.1 | exact hX.1.1.2.2.2.1 | exact hX.1.1.2.2.2.2.1 | exact hX.1.1.2.2.2.2.2.1 | exact hX.1.1.2.2.2.2.2.2.1 | exact hX.1.1.2.2.2.2.2.2.2.1 | exact hX.1.1.2.2.2.2.2.2.2.2.1 | exact hX.1.1.2.2.2.2.2.2.2.2.2.1 | exact hX.1.1.2.2.2.2.2.2.2.2.2.2) rfl rfl (c_X6_has hX.1 r i 3 (by unfold ctA; have := hX.2.2.2.2.2; omega) ?_)
          refine V_topi _ ((hX.2.2.2.2.1.2.2.2.2.1 i hi).2.2.2.1) ?_
          refine V_iconstv 173 (1) dX6_comesByPhases_173 (by decide) ?_
          refine V_iadd 174 dX6_comesByPhases_174 ?_
          refine V_iv4 175 dX6_comesByPhases_175 kvX6_59 rfl (by first | exact hX.1.1.1 | exact hX.1.1.2.1 | exact hX.1.1.2.2.1 | exact hX.1.1.2.2.2.1 | exact hX.1.1.2.2.2.2.1 | exact hX.1.1.2.2.2.2.2.1 | exact hX.1.1.2.2.2.2.2.2.1 | exact hX.1.1.2.2.2.2.2.2.2.1 | exact hX.1.1.2.2.2.2.2.2.2.2.1 | exact hX.1.1.2.2.2.2.2.2.2.2.2.1 | exact hX.1.1.2.2.2.2.2.2.2.2.2.2) rfl rfl (c_X6_setX hX i 3 hi (by omega) (show RowE _ _ _ (setE _ (nI i) 3 _) from hX.2.2.2.2.1.st hi hn 3 3 (by omega)) (fun h M1 hX hI hrow => ?_))
          replace hH := HD.of hI hH
          replace hln := (congrFun hI 10).trans hln
          refine V_aload_n 178 dX6_comesByPhases_178 rfl ?_
          refine V_iload_n 179 dX6_comesByPhases_179 rfl ?_
          refine V_iload_n 180 dX6_comesByPhases_180 rfl ?_
          refine V_bipushv 181 (7) dX6_comesByPhases_181 (by decide) ?_
          refine V_iconstv 183 (0) dX6_comesByPhases_183 (by decide) ?_
          refine V_iv4 184 dX6_comesByPhases_184 kvX6_59 rfl (by first | exact hX.1.1.1 | exact hX.1.1.2.1 | exact hX.1.1.2.2.1 | exact hX.1.1.2.2.2.1 | exact hX.1.1.2.2.2.2.1 | exact hX.1.1.2.2.2.2.2.1 | exact hX.1.1.2.2.2.2.2.2.1 | exact hX.1.1.2.2.2.2.2.2.2.1 | exact hX.1.1.2.2.2.2.2.2.2.2.1 | exact hX.1.1.2.2.2.2.2.2.2.2.2.1 | exact hX.1.1.2.2.2.2.2.2.2.2.2.2) rfl rfl (c_X6_setX hX i 7 hi (by omega) (hX.2.2.2.2.1.s7 hi hn (by rw [eW_set, eW_set]; exact hw3) (fun q => absurd q (by decide))) (fun h M1 hX hI hrow => ?_))
          replace hH := HD.of hI hH
          replace hln := (congrFun hI 10).trans hln
          refine V_aload_n 187 dX6_comesByPhases_187 rfl ?_
          refine V_iload_n 188 dX6_comesByPhases_188 rfl ?_
          refine V_aload_n 189 dX6_comesByPhases_189 rfl ?_
          refine V_iload_n 190 dX6_comesByPhases_190 rfl ?_
          refine V_iload_n 191 dX6_comesByPhases_191 rfl ?_
          refine V_iv2 192 dX6_comesByPhases_192 kvX6_71 rfl (by first | exact hX.1.1.1 | exact hX.1.1.2.1 | exact hX.1.1.2.2.1 | exact hX.1.1.2.2.2.1 | exact hX.1.1.2.2.2.2.1 | exact hX.1.1.2.2.2.2.2.1 | exact hX.1.1.2.2.2.2.2.2.1 | exact hX.1.1.2.2.2.2.2.2.2.1 | exact hX.1.1.2.2.2.2.2.2.2.2.1 | exact hX.1.1.2.2.2.2.2.2.2.2.2.1 | exact hX.1.1.2.2.2.2.2.2.2.2.2.2) rfl rfl (c_X6_rightOf hX.1 r i (by unfold ctA; have := hX.2.2.2.2.2; omega) ?_)
          refine V_topi (2 * nI i + eC _ (8 * i + 1)) (congrArg (fun z => 2 * nI i + z) (hX.2.2.2.2.1.2.2.2.2.1 i hi).1) ?_
          refine V_iconstv 195 (4) dX6_comesByPhases_195 (by decide) ?_
          refine V_iload 196 dX6_comesByPhases_196 rfl ?_
          refine V_iconstv 198 (-1) dX6_comesByPhases_198 (by decide) ?_
          refine V_iconstv 199 (-1) dX6_comesByPhases_199 (by decide) ?_
          refine V_iconstv 200 (-1) dX6_comesByPhases_200 (by decide) ?_
          refine V_iv7 201 dX6_comesByPhases_201 kvX6_63 rfl (by first | exact hX.1.1.1 | exact hX.1.1.2.1 | exact hX.1.1.2.2.1 | exact hX.1.1.2.2.2.1 | exact hX.1.1.2.2.2.2.1 | exact hX.1.1.2.2.2.2.2.1 | exact hX.1.1.2.2.2.2.2.2.1 | exact hX.1.1.2.2.2.2.2.2.2.1 | exact hX.1.1.2.2.2.2.2.2.2.2.1 | exact hX.1.1.2.2.2.2.2.2.2.2.2.1 | exact hX.1.1.2.2.2.2.2.2.2.2.2.2) rfl rfl (c_X6_sends hX (by rw [eN_set, eN_set, eN_set]; exact hc) 4 (by decide) (fun h M1 hX hI => ?_))
          replace hX : WX G h0 h m M0 M1 r (sndE _ _ 4 _ _ _ _) Q := hX
          refine V_goto 204 215 dX6_comesByPhases_204 rfl ?_
          refine V_vret 215 dX6_comesByPhases_215 ?_
          unfold mkE at k
          rw [k0, if_pos (hr1 c_r), k5] at k
          first
            | (rw [if_pos c_19, if_neg (fun q => absurd (c_k4.symm.trans q) (by decide)), dl3_f] at k; exact k _ _ hX)
            | (rw [if_neg c_19, if_pos c_k4] at k; unfold tfE at k; rw [k2] at k; first | (rw [if_pos c_53, dl3_f] at k; exact k _ _ hX) | (rw [if_neg c_53, srE_eq _ (by omega), dl3_f] at k; exact k _ _ hX))
            | (rw [if_neg c_19, if_neg c_k4, dl3_f] at k; exact k _ _ hX)
            | (rw [if_pos c_19, if_neg c_114, dl3_f] at k; exact k _ _ hX)
            | (rw [if_pos c_19, if_pos c_114] at k; unfold tsE at k; rw [k6, k2] at k; first | (rw [if_pos c_141, dl3_f] at k; exact k _ _ hX) | (rw [if_neg c_141, if_pos c_150, dl3_f] at k; exact k _ _ hX) | (rw [if_neg c_141, if_neg c_150] at k; unfold ts2 at k; rw [k3, srE_eq _ (by omega), dl3_f] at k; exact k _ _ hX))
theorem c_X6_comesByPhases (hX : WX G h0 h m M0 M r E Q) (i : Nat) (hi : i < Q.1) (rn : Int32) (hrn : (rn = 1 ∧ eC E (8 * i) = 1) ∨ (rn = 0 ∧ ¬ eC E (8 * i) = 1)) (hH : HD M E) (hc : eN E < 12) {x : Int32} (hln : M.1 10 = 2 * nI i + (x &&& 1)) (κ : Nat) (hκ : κ = 4 ∨ κ = 5) (hk5 : eH E 1 = nI κ) (hw3 : eW E = 3)  (k : ∀ h M1, WX G h0 h m M0 M1 r (dl3 (mkE E (nI i)) x (nI i)) Q → Post none h sz) : Cn l G yX6_comesByPhases cX6_comesByPhases 6 none 4 0 0 [.ref m, .int (nI r), .int (nI i), .int rn] h sz Post := by
  by_cases c_r : rn = 0
  · exact c_X6_comesByPhases_0 hX i hi rn hrn hH hc hln κ hκ hk5 hw3 c_r k
  · by_cases c_k4 : eH E 1 = 4
    · exact c_X6_comesByPhases_4 hX i hi rn hrn hH hc hln κ hκ hk5 hw3 c_r c_k4 k
    · exact c_X6_comesByPhases_5 hX i hi rn hrn hH hc hln κ hκ hk5 hw3 c_r c_k4 k
end M28
