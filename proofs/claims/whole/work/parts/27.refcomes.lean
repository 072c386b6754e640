theorem HD.set {M : MT} {E : ET} (h : HD M E) (w k v : Int32) : HD M (setE E w k v) := by unfold HD; rw [eH_set]; exact h
section M27
variable {l : Launch} {G : zGT} {h h0 : hpT} {sz : Nat} {Post : Option Value → hpT → Nat → Prop} {m r : Nat} {M M0 : MT} {Q : RG} {E : ET}
theorem WX.hand (hX : WX G h0 h m M0 M r E Q) (f : Nat → Int32) : WX G h0 h m M0 M r (eH' E f) Q := hX
theorem WX.scr (hX : WX G h0 h m M0 M r E Q) {h1 : hpT} {k : Nat} {x : Int32} (a : 5 ≤ k) (b : k < 12) (hM : WM G h0 h1 m (mI M k x)) : WX G h0 h1 m M0 (mI M k x) r E Q := by
  obtain ⟨-, h2, h3, h4, h5, h6⟩ := hX
  refine ⟨hM, h2.int a b, ?_, h4, h5, h6⟩
  show va_up M.1 k x 0 = _
  rw [va_up_ne _ _ (by omega)]
  exact h3
set_option maxHeartbeats 1000000 in
set_option maxRecDepth 100000 in
theorem c_X6_begins (hX : WX G h0 h m M0 M r E Q) (i : Nat) (hi : i < Q.1) (hw : eW E = 1 ∨ eW E = 2 ∨ eW E = 3 ∨ eW E = 4) (hc : eN E ≤ 10) (hp1 : eW E = 1 → eC E (8 * i + 3) = -1) (hd4 : eW E = 4 → ∃ a b, a < 2 ^ 31 ∧ eC E (8 * i + 7) = nI a ∧ 1 ≤ b ∧ b ≤ 9 ∧ eG E = nI b) (k : ∀ h M1, WX G h0 h m M0 M1 r (rsE Q E (nI i)) Q → Post none h sz) : Cn l G yX6_begins cX6_begins 4 none 4 0 0 [.ref m, .int (nI r), .int (nI i)] h sz Post := by
  refine Cn.of RX6 false (by decide) rfl (fun q => by cases q) (Nat.le_of_ble_eq_true rfl) ?_
  have hn := hX.2.2.2.2.2.2
  have hr := hX.2.2.2.2.2.1
  have k0 : ∀ (E : ET), celE E (nI i) 0 = eC E (8 * i + 0) := fun E => celE_nI E (k := 0) (by omega) (by omega)
  have k1 : ∀ (E : ET), celE E (nI i) 1 = eC E (8 * i + 1) := fun E => celE_nI E (k := 1) (by omega) (by omega)
  have k2 : ∀ (E : ET), celE E (nI i) 2 = eC E (8 * i + 2) := fun E => celE_nI E (k := 2) (by omega) (by omega)
  have k3 : ∀ (E : ET), celE E (nI i) 3 = eC E (8 * i + 3) := fun E => celE_nI E (k := 3) (by omega) (by omega)
  have k4 : ∀ (E : ET), celE E (nI i) 4 = eC E (8 * i + 4) := fun E => celE_nI E (k := 4) (by omega) (by omega)
  have k5 : ∀ (E : ET), celE E (nI i) 5 = eC E (8 * i + 5) := fun E => celE_nI E (k := 5) (by omega) (by omega)
  have k6 : ∀ (E : ET), celE E (nI i) 6 = eC E (8 * i + 6) := fun E => celE_nI E (k := 6) (by omega) (by omega)
  have k7 : ∀ (E : ET), celE E (nI i) 7 = eC E (8 * i + 7) := fun E => celE_nI E (k := 7) (by omega) (by omega)
  refine V_aload_n 0 dX6_begins_0 rfl ?_
  refine V_iload_n 1 dX6_begins_1 rfl ?_
  refine V_iload_n 2 dX6_begins_2 rfl ?_
  refine V_iconstv 3 (1) dX6_begins_3 (by decide) ?_
  refine V_iconstv 4 (1) dX6_begins_4 (by decide) ?_
  refine V_iv4 5 dX6_begins_5 kvX6_59 rfl (by first | exact hX.1.1.1 | exact hX.1.1.2.1 | exact hX.1.1.2.2.1 | exact hX.1.1.2.2.2.1 | exact hX.1.1.2.2.2.2.1 | exact hX.1.1.2.2.2.2.2.1 | exact hX.1.1.2.2.2.2.2.2.1 | exact hX.1.1.2.2.2.2.2.2.2.1 | exact hX.1.1.2.2.2.2.2.2.2.2.1 | exact hX.1.1.2.2.2.2.2.2.2.2.2.1 | exact hX.1.1.2.2.2.2.2.2.2.2.2.2) rfl rfl (c_X6_set hX.1 r i 1 (by unfold ctA; have := hX.2.2.2.2.2; omega) (fun h hM => ?_))
  replace hX := hX.row (by unfold ctA; omega) (by have := hX.2.2.2.2.2; unfold ctA; omega) hM (hX.2.2.2.2.1.st hi hn 1 0 (by omega))
  refine V_aload_n 8 dX6_begins_8 rfl ?_
  refine V_get 9 dX6_begins_9 fdX6_16 (by first | exact hX.1.1.1 | exact hX.1.1.2.1 | exact hX.1.1.2.2.1 | exact hX.1.1.2.2.2.1 | exact hX.1.1.2.2.2.2.1 | exact hX.1.1.2.2.2.2.2.1 | exact hX.1.1.2.2.2.2.2.2.1 | exact hX.1.1.2.2.2.2.2.2.2.1 | exact hX.1.1.2.2.2.2.2.2.2.2.1 | exact hX.1.1.2.2.2.2.2.2.2.2.2.1 | exact hX.1.1.2.2.2.2.2.2.2.2.2.2) rfl ?_
  refine V_sipushv 12 (168) dX6_begins_12 (by decide) ?_
  refine V_iload_n 15 dX6_begins_15 rfl ?_
  refine V_imul 16 dX6_begins_16 ?_
  refine V_topi (nI (168 * r)) (pk_mul 168 r) ?_
  refine V_iconstv 17 (0) dX6_begins_17 (by decide) ?_
  refine V_iadd 18 dX6_begins_18 ?_
  refine V_topi (nI (168 * r + 0)) (nI_add _ 0) ?_
  refine V_ialdk 19 (168 * r) (nI_clamp (by omega)) dX6_begins_19 (by first | exact hX.1.1.1 | exact hX.1.1.2.1 | exact hX.1.1.2.2.1 | exact hX.1.1.2.2.2.1 | exact hX.1.1.2.2.2.2.1 | exact hX.1.1.2.2.2.2.2.1 | exact hX.1.1.2.2.2.2.2.2.1 | exact hX.1.1.2.2.2.2.2.2.2.1 | exact hX.1.1.2.2.2.2.2.2.2.2.1 | exact hX.1.1.2.2.2.2.2.2.2.2.2.1 | exact hX.1.1.2.2.2.2.2.2.2.2.2.2) (vp_in_nI (by omega) (by decide)) ?_
  refine V_topi (eW E) (hX.2.2.2.2.1.1.trans (eW_set _ _ _ _)) ?_
  refine V_istore_n 20 dX6_begins_20 rfl rfl ?_
  refine V_aload_n 21 dX6_begins_21 rfl ?_
  refine V_iload_n 22 dX6_begins_22 rfl ?_
  refine V_iload_n 23 dX6_begins_23 rfl ?_
  refine V_iconstv 24 (3) dX6_begins_24 (by decide) ?_
  refine V_iload_n 25 dX6_begins_25 rfl ?_
  refine V_iconstv 26 (1) dX6_begins_26 (by decide) ?_
  refine V_icmp_ne 27 34 dX6_begins_27 rfl (fun c_27 => ?_) (fun c_27 => ?_)
  · refine V_iload_n 34 dX6_begins_34 rfl ?_
    refine V_iconstv 35 (4) dX6_begins_35 (by decide) ?_
    refine V_icmp_ne 36 43 dX6_begins_36 rfl (fun c_36 => ?_) (fun c_36 => ?_)
    · refine V_iconstv 43 (0) dX6_begins_43 (by decide) ?_
      refine V_iv4 44 dX6_begins_44 kvX6_59 rfl (by first | exact hX.1.1.1 | exact hX.1.1.2.1 | exact hX.1.1.2.2.1 | exact hX.1.1.2.2.2.1 | exact hX.1.1.2.2.2.2.1 | exact hX.1.1.2.2.2.2.2.1 | exact hX.1.1.2.2.2.2.2.2.1 | exact hX.1.1.2.2.2.2.2.2.2.1 | exact hX.1.1.2.2.2.2.2.2.2.2.1 | exact hX.1.1.2.2.2.2.2.2.2.2.2.1 | exact hX.1.1.2.2.2.2.2.2.2.2.2.2) rfl rfl (c_X6_set hX.1 r i 3 (by unfold ctA; have := hX.2.2.2.2.2; omega) (fun h hM => ?_))
      replace hX := hX.row (by unfold ctA; omega) (by have := hX.2.2.2.2.2; unfold ctA; omega) hM (hX.2.2.2.2.1.st hi hn 3 3 (by omega))
      refine V_iload_n 47 dX6_begins_47 rfl ?_
      refine V_iconstv 48 (1) dX6_begins_48 (by decide) ?_
      refine V_icmp_ne 49 76 dX6_begins_49 rfl (fun _ => ?_) (fun q => absurd q c_27)
      refine V_iload_n 76 dX6_begins_76 rfl ?_
      refine V_iconstv 77 (2) dX6_begins_77 (by decide) ?_
      refine V_icmp_ne 78 90 dX6_begins_78 rfl (fun c_78 => ?_) (fun c_78 => ?_)
      · refine V_iload_n 90 dX6_begins_90 rfl ?_
        refine V_iconstv 91 (3) dX6_begins_91 (by decide) ?_
        refine V_icmp_ne 92 132 dX6_begins_92 rfl (fun c_92 => ?_) (fun c_92 => ?_)
        · have c_w4 : eW E = 4 := by
            rcases hw with q | q | q | q
            · exact absurd q c_27
            · exact absurd q c_78
            · exact absurd q c_92
            · exact q
          exact absurd c_w4 c_36 --end
        · refine V_aload_n 95 dX6_begins_95 rfl ?_
          refine V_iload_n 96 dX6_begins_96 rfl ?_
          refine V_iload_n 97 dX6_begins_97 rfl ?_
          refine V_iconstv 98 (2) dX6_begins_98 (by decide) ?_
          refine V_aload_n 99 dX6_begins_99 rfl ?_
          refine V_get 100 dX6_begins_100 fdX6_7 (by first | exact hX.1.1.1 | exact hX.1.1.2.1 | exact hX.1.1.2.2.1 | exact hX.1.1.2.2.2.1 | exact hX.1.1.2.2.2.2.1 | exact hX.1.1.2.2.2.2.2.1 | exact hX.1.1.2.2.2.2.2.2.1 | exact hX.1.1.2.2.2.2.2.2.2.1 | exact hX.1.1.2.2.2.2.2.2.2.2.1 | exact hX.1.1.2.2.2.2.2.2.2.2.2.1 | exact hX.1.1.2.2.2.2.2.2.2.2.2.2) rfl ?_
          refine V_iload_n 103 dX6_begins_103 rfl ?_
          refine V_ialdk 104 i (nI_clamp (by omega)) dX6_begins_104 (by first | exact hX.1.1.1 | exact hX.1.1.2.1 | exact hX.1.1.2.2.1 | exact hX.1.1.2.2.2.1 | exact hX.1.1.2.2.2.2.1 | exact hX.1.1.2.2.2.2.2.1 | exact hX.1.1.2.2.2.2.2.2.1 | exact hX.1.1.2.2.2.2.2.2.2.1 | exact hX.1.1.2.2.2.2.2.2.2.2.1 | exact hX.1.1.2.2.2.2.2.2.2.2.2.1 | exact hX.1.1.2.2.2.2.2.2.2.2.2.2) (vp_in_nI (by omega) (by decide)) ?_
          refine V_topi (Q.2.1 i) (hX.2.2.2.1 i hi) ?_
          refine V_iv4 105 dX6_begins_105 kvX6_59 rfl (by first | exact hX.1.1.1 | exact hX.1.1.2.1 | exact hX.1.1.2.2.1 | exact hX.1.1.2.2.2.1 | exact hX.1.1.2.2.2.2.1 | exact hX.1.1.2.2.2.2.2.1 | exact hX.1.1.2.2.2.2.2.2.1 | exact hX.1.1.2.2.2.2.2.2.2.1 | exact hX.1.1.2.2.2.2.2.2.2.2.1 | exact hX.1.1.2.2.2.2.2.2.2.2.2.1 | exact hX.1.1.2.2.2.2.2.2.2.2.2.2) rfl rfl (c_X6_set hX.1 r i 2 (by unfold ctA; have := hX.2.2.2.2.2; omega) (fun h hM => ?_))
          replace hX := hX.row (by unfold ctA; omega) (by have := hX.2.2.2.2.2; unfold ctA; omega) hM (hX.2.2.2.2.1.st hi hn 2 2 (by omega))
          refine V_aload_n 108 dX6_begins_108 rfl ?_
          refine V_iload_n 109 dX6_begins_109 rfl ?_
          refine V_aload_n 110 dX6_begins_110 rfl ?_
          refine V_iload_n 111 dX6_begins_111 rfl ?_
          refine V_iload_n 112 dX6_begins_112 rfl ?_
          refine V_iv2 113 dX6_begins_113 kvX6_71 rfl (by first | exact hX.1.1.1 | exact hX.1.1.2.1 | exact hX.1.1.2.2.1 | exact hX.1.1.2.2.2.1 | exact hX.1.1.2.2.2.2.1 | exact hX.1.1.2.2.2.2.2.1 | exact hX.1.1.2.2.2.2.2.2.1 | exact hX.1.1.2.2.2.2.2.2.2.1 | exact hX.1.1.2.2.2.2.2.2.2.2.1 | exact hX.1.1.2.2.2.2.2.2.2.2.2.1 | exact hX.1.1.2.2.2.2.2.2.2.2.2.2) rfl rfl (c_X6_rightOf hX.1 r i (by unfold ctA; have := hX.2.2.2.2.2; omega) ?_)
          refine V_topi (2 * nI i + eC _ (8 * i + 1)) (congrArg (fun z => 2 * nI i + z) (hX.2.2.2.2.1.2.2.2.2.1 i hi).1) ?_
          refine V_iconstv 116 (4) dX6_begins_116 (by decide) ?_
          refine V_aload_n 117 dX6_begins_117 rfl ?_
          refine V_get 118 dX6_begins_118 fdX6_7 (by first | exact hX.1.1.1 | exact hX.1.1.2.1 | exact hX.1.1.2.2.1 | exact hX.1.1.2.2.2.1 | exact hX.1.1.2.2.2.2.1 | exact hX.1.1.2.2.2.2.2.1 | exact hX.1.1.2.2.2.2.2.2.1 | exact hX.1.1.2.2.2.2.2.2.2.1 | exact hX.1.1.2.2.2.2.2.2.2.2.1 | exact hX.1.1.2.2.2.2.2.2.2.2.2.1 | exact hX.1.1.2.2.2.2.2.2.2.2.2.2) rfl ?_
          refine V_iload_n 121 dX6_begins_121 rfl ?_
          refine V_ialdk 122 i (nI_clamp (by omega)) dX6_begins_122 (by first | exact hX.1.1.1 | exact hX.1.1.2.1 | exact hX.1.1.2.2.1 | exact hX.1.1.2.2.2.1 | exact hX.1.1.2.2.2.2.1 | exact hX.1.1.2.2.2.2.2.1 | exact hX.1.1.2.2.2.2.2.2.1 | exact hX.1.1.2.2.2.2.2.2.2.1 | exact hX.1.1.2.2.2.2.2.2.2.2.1 | exact hX.1.1.2.2.2.2.2.2.2.2.2.1 | exact hX.1.1.2.2.2.2.2.2.2.2.2.2) (vp_in_nI (by omega) (by decide)) ?_
          refine V_topi (Q.2.1 i) (hX.2.2.2.1 i hi) ?_
          refine V_iconstv 123 (-1) dX6_begins_123 (by decide) ?_
          refine V_iconstv 124 (-1) dX6_begins_124 (by decide) ?_
          refine V_iconstv 125 (-1) dX6_begins_125 (by decide) ?_
          refine V_iv7 126 dX6_begins_126 kvX6_63 rfl (by first | exact hX.1.1.1 | exact hX.1.1.2.1 | exact hX.1.1.2.2.1 | exact hX.1.1.2.2.2.1 | exact hX.1.1.2.2.2.2.1 | exact hX.1.1.2.2.2.2.2.1 | exact hX.1.1.2.2.2.2.2.2.1 | exact hX.1.1.2.2.2.2.2.2.2.1 | exact hX.1.1.2.2.2.2.2.2.2.2.1 | exact hX.1.1.2.2.2.2.2.2.2.2.2.1 | exact hX.1.1.2.2.2.2.2.2.2.2.2.2) rfl rfl (c_X6_sends hX (by rw [eN_set, eN_set, eN_set]; omega) 4 (by decide) (fun h M1 hX hI => ?_))
          refine V_goto 129 138 dX6_begins_129 rfl ?_
          refine V_vret 138 dX6_begins_138 ?_
          unfold rsE rs1 at k
          rw [eW_set, nmR_nI (by omega)] at k
          first
            | (rw [if_pos c_27, srE_eq _ (by omega)] at k; exact k _ _ hX)
            | (rw [if_neg c_27, if_pos c_78] at k; exact k _ _ hX)
            | (rw [if_neg c_27, if_neg c_78, if_pos c_92, srE_eq _ (by omega)] at k; exact k _ _ hX)
            | (rw [if_neg (by rw [c_36]; decide), if_neg (by rw [c_36]; decide), if_neg (by rw [c_36]; decide)] at k; exact k _ _ hX)
      · refine V_aload_n 81 dX6_begins_81 rfl ?_
        refine V_iload_n 82 dX6_begins_82 rfl ?_
        refine V_iload_n 83 dX6_begins_83 rfl ?_
        refine V_iv2 84 dX6_begins_84 kvX6_75 rfl (by first | exact hX.1.1.1 | exact hX.1.1.2.1 | exact hX.1.1.2.2.1 | exact hX.1.1.2.2.2.1 | exact hX.1.1.2.2.2.2.1 | exact hX.1.1.2.2.2.2.2.1 | exact hX.1.1.2.2.2.2.2.2.1 | exact hX.1.1.2.2.2.2.2.2.2.1 | exact hX.1.1.2.2.2.2.2.2.2.2.1 | exact hX.1.1.2.2.2.2.2.2.2.2.2.1 | exact hX.1.1.2.2.2.2.2.2.2.2.2.2) rfl rfl (c_X6_probes hX i hi (by rw [eW_set, eW_set]; exact c_78) (by rw [eN_set, eN_set]; exact hc) (fun h M1 hX hI => ?_))
        refine V_goto 87 138 dX6_begins_87 rfl ?_
        refine V_vret 138 dX6_begins_138 ?_
        unfold rsE rs1 at k
        rw [eW_set, nmR_nI (by omega)] at k
        first
          | (rw [if_pos c_27, srE_eq _ (by omega)] at k; exact k _ _ hX)
          | (rw [if_neg c_27, if_pos c_78] at k; exact k _ _ hX)
          | (rw [if_neg c_27, if_neg c_78, if_pos c_92, srE_eq _ (by omega)] at k; exact k _ _ hX)
          | (rw [if_neg (by rw [c_36]; decide), if_neg (by rw [c_36]; decide), if_neg (by rw [c_36]; decide)] at k; exact k _ _ hX)
    · refine V_iconstv 39 (1) dX6_begins_39 (by decide) ?_
      refine V_goto 40 44 dX6_begins_40 rfl ?_
      refine V_iv4 44 dX6_begins_44 kvX6_59 rfl (by first | exact hX.1.1.1 | exact hX.1.1.2.1 | exact hX.1.1.2.2.1 | exact hX.1.1.2.2.2.1 | exact hX.1.1.2.2.2.2.1 | exact hX.1.1.2.2.2.2.2.1 | exact hX.1.1.2.2.2.2.2.2.1 | exact hX.1.1.2.2.2.2.2.2.2.1 | exact hX.1.1.2.2.2.2.2.2.2.2.1 | exact hX.1.1.2.2.2.2.2.2.2.2.2.1 | exact hX.1.1.2.2.2.2.2.2.2.2.2.2) rfl rfl (c_X6_set hX.1 r i 3 (by unfold ctA; have := hX.2.2.2.2.2; omega) (fun h hM => ?_))
      replace hX := hX.row (by unfold ctA; omega) (by have := hX.2.2.2.2.2; unfold ctA; omega) hM (hX.2.2.2.2.1.st hi hn 3 3 (by omega))
      refine V_iload_n 47 dX6_begins_47 rfl ?_
      refine V_iconstv 48 (1) dX6_begins_48 (by decide) ?_
      refine V_icmp_ne 49 76 dX6_begins_49 rfl (fun _ => ?_) (fun q => absurd q c_27)
      refine V_iload_n 76 dX6_begins_76 rfl ?_
      refine V_iconstv 77 (2) dX6_begins_77 (by decide) ?_
      refine V_icmp_ne 78 90 dX6_begins_78 rfl (fun _ => ?_) (fun q => absurd (q.symm.trans c_36) (by decide))
      refine V_iload_n 90 dX6_begins_90 rfl ?_
      refine V_iconstv 91 (3) dX6_begins_91 (by decide) ?_
      refine V_icmp_ne 92 132 dX6_begins_92 rfl (fun _ => ?_) (fun q => absurd (q.symm.trans c_36) (by decide))
      have c_w4 : eW E = 4 := c_36
      obtain ⟨a, b, ha, hxa, hb, hb9, hG⟩ := hd4 c_w4
      refine V_aload_n 132 dX6_begins_132 rfl ?_
      refine V_iload_n 133 dX6_begins_133 rfl ?_
      refine V_iload_n 134 dX6_begins_134 rfl ?_
      refine V_iv2 135 dX6_begins_135 kvX6_79 rfl (by first | exact hX.1.1.1 | exact hX.1.1.2.1 | exact hX.1.1.2.2.1 | exact hX.1.1.2.2.2.1 | exact hX.1.1.2.2.2.2.1 | exact hX.1.1.2.2.2.2.2.1 | exact hX.1.1.2.2.2.2.2.2.1 | exact hX.1.1.2.2.2.2.2.2.2.1 | exact hX.1.1.2.2.2.2.2.2.2.2.1 | exact hX.1.1.2.2.2.2.2.2.2.2.2.1 | exact hX.1.1.2.2.2.2.2.2.2.2.2.2) rfl rfl (c_X6_draws hX i hi (by rw [eW_set, eW_set, c_w4]; decide) (by rw [eN_set, eN_set]; omega) a ha (by rw [eC_set _ (c := 3) (by omega) (by omega), eC_set E (c := 0) (by omega) (by omega), pk_un (by omega), pk_un (by omega)]; exact hxa) b hb hb9 (by rw [eG_set, eG_set]; exact hG) (fun h M1 hX hI => ?_))
      refine V_vret 138 dX6_begins_138 ?_
      unfold rsE rs1 at k
      rw [eW_set, nmR_nI (by omega)] at k
      first
        | (rw [if_pos c_27, srE_eq _ (by omega)] at k; exact k _ _ hX)
        | (rw [if_neg c_27, if_pos c_78] at k; exact k _ _ hX)
        | (rw [if_neg c_27, if_neg c_78, if_pos c_92, srE_eq _ (by omega)] at k; exact k _ _ hX)
        | (rw [if_neg (by rw [c_36]; decide), if_neg (by rw [c_36]; decide), if_neg (by rw [c_36]; decide)] at k; exact k _ _ hX)
  · refine V_iconstv 30 (-1) dX6_begins_30 (by decide) ?_
    refine V_goto 31 44 dX6_begins_31 rfl ?_
    refine V_iv4 44 dX6_begins_44 kvX6_59 rfl (by first | exact hX.1.1.1 | exact hX.1.1.2.1 | exact hX.1.1.2.2.1 | exact hX.1.1.2.2.2.1 | exact hX.1.1.2.2.2.2.1 | exact hX.1.1.2.2.2.2.2.1 | exact hX.1.1.2.2.2.2.2.2.1 | exact hX.1.1.2.2.2.2.2.2.2.1 | exact hX.1.1.2.2.2.2.2.2.2.2.1 | exact hX.1.1.2.2.2.2.2.2.2.2.2.1 | exact hX.1.1.2.2.2.2.2.2.2.2.2.2) rfl rfl (c_X6_set hX.1 r i 3 (by unfold ctA; have := hX.2.2.2.2.2; omega) (fun h hM => ?_))
    replace hX := hX.row (by unfold ctA; omega) (by have := hX.2.2.2.2.2; unfold ctA; omega) hM (hX.2.2.2.2.1.s3n hi (by rw [show (0 : Int32) = nI 0 from rfl] at *; rw [eC_set E (by omega) (by omega), pk_un (by omega)]; exact hp1 c_27))
    refine V_iload_n 47 dX6_begins_47 rfl ?_
    refine V_iconstv 48 (1) dX6_begins_48 (by decide) ?_
    refine V_icmp_ne 49 76 dX6_begins_49 rfl (fun q => absurd c_27 q) (fun _ => ?_)
    refine V_aload_n 52 dX6_begins_52 rfl ?_
    refine V_iload_n 53 dX6_begins_53 rfl ?_
    refine V_aload_n 54 dX6_begins_54 rfl ?_
    refine V_iload_n 55 dX6_begins_55 rfl ?_
    refine V_iload_n 56 dX6_begins_56 rfl ?_
    refine V_iv2 57 dX6_begins_57 kvX6_71 rfl (by first | exact hX.1.1.1 | exact hX.1.1.2.1 | exact hX.1.1.2.2.1 | exact hX.1.1.2.2.2.1 | exact hX.1.1.2.2.2.2.1 | exact hX.1.1.2.2.2.2.2.1 | exact hX.1.1.2.2.2.2.2.2.1 | exact hX.1.1.2.2.2.2.2.2.2.1 | exact hX.1.1.2.2.2.2.2.2.2.2.1 | exact hX.1.1.2.2.2.2.2.2.2.2.2.1 | exact hX.1.1.2.2.2.2.2.2.2.2.2.2) rfl rfl (c_X6_rightOf hX.1 r i (by unfold ctA; have := hX.2.2.2.2.2; omega) ?_)
    refine V_topi (2 * nI i + eC _ (8 * i + 1)) (congrArg (fun z => 2 * nI i + z) (hX.2.2.2.2.1.2.2.2.2.1 i hi).1) ?_
    refine V_iconstv 60 (1) dX6_begins_60 (by decide) ?_
    refine V_aload_n 61 dX6_begins_61 rfl ?_
    refine V_get 62 dX6_begins_62 fdX6_7 (by first | exact hX.1.1.1 | exact hX.1.1.2.1 | exact hX.1.1.2.2.1 | exact hX.1.1.2.2.2.1 | exact hX.1.1.2.2.2.2.1 | exact hX.1.1.2.2.2.2.2.1 | exact hX.1.1.2.2.2.2.2.2.1 | exact hX.1.1.2.2.2.2.2.2.2.1 | exact hX.1.1.2.2.2.2.2.2.2.2.1 | exact hX.1.1.2.2.2.2.2.2.2.2.2.1 | exact hX.1.1.2.2.2.2.2.2.2.2.2.2) rfl ?_
    refine V_iload_n 65 dX6_begins_65 rfl ?_
    refine V_ialdk 66 i (nI_clamp (by omega)) dX6_begins_66 (by first | exact hX.1.1.1 | exact hX.1.1.2.1 | exact hX.1.1.2.2.1 | exact hX.1.1.2.2.2.1 | exact hX.1.1.2.2.2.2.1 | exact hX.1.1.2.2.2.2.2.1 | exact hX.1.1.2.2.2.2.2.2.1 | exact hX.1.1.2.2.2.2.2.2.2.1 | exact hX.1.1.2.2.2.2.2.2.2.2.1 | exact hX.1.1.2.2.2.2.2.2.2.2.2.1 | exact hX.1.1.2.2.2.2.2.2.2.2.2.2) (vp_in_nI (by omega) (by decide)) ?_
    refine V_topi (Q.2.1 i) (hX.2.2.2.1 i hi) ?_
    refine V_iconstv 67 (-1) dX6_begins_67 (by decide) ?_
    refine V_iconstv 68 (-1) dX6_begins_68 (by decide) ?_
    refine V_iconstv 69 (-1) dX6_begins_69 (by decide) ?_
    refine V_iv7 70 dX6_begins_70 kvX6_63 rfl (by first | exact hX.1.1.1 | exact hX.1.1.2.1 | exact hX.1.1.2.2.1 | exact hX.1.1.2.2.2.1 | exact hX.1.1.2.2.2.2.1 | exact hX.1.1.2.2.2.2.2.1 | exact hX.1.1.2.2.2.2.2.2.1 | exact hX.1.1.2.2.2.2.2.2.2.1 | exact hX.1.1.2.2.2.2.2.2.2.2.1 | exact hX.1.1.2.2.2.2.2.2.2.2.2.1 | exact hX.1.1.2.2.2.2.2.2.2.2.2.2) rfl rfl (c_X6_sends hX (by rw [eN_set]; omega) 1 (by decide) (fun h M1 hX hI => ?_))
    refine V_goto 73 138 dX6_begins_73 rfl ?_
    refine V_vret 138 dX6_begins_138 ?_
    unfold rsE rs1 at k
    rw [eW_set, nmR_nI (by omega)] at k
    first
      | (rw [if_pos c_27, srE_eq _ (by omega)] at k; exact k _ _ hX)
      | (rw [if_neg c_27, if_pos c_78] at k; exact k _ _ hX)
      | (rw [if_neg c_27, if_neg c_78, if_pos c_92, srE_eq _ (by omega)] at k; exact k _ _ hX)
      | (rw [if_neg (by rw [c_36]; decide), if_neg (by rw [c_36]; decide), if_neg (by rw [c_36]; decide)] at k; exact k _ _ hX)
set_option maxHeartbeats 1000000 in
set_option maxRecDepth 100000 in
theorem c_X6_comesByGreatest (hX : WX G h0 h m M0 M r E Q) (i : Nat) (hi : i < Q.1) (rn : Int32) (hrn : (rn = 1 ∧ eC E (8 * i) = 1) ∨ (rn = 0 ∧ ¬ eC E (8 * i) = 1)) (hH : HD M E) (hc : eN E < 12) {x : Int32} (hln : M.1 10 = 2 * nI i + (x &&& 1)) (hk5 : eH E 1 = nI 1) (k : ∀ h M1, WX G h0 h m M0 M1 r (dl3 (gpE Q E (nI i)) x (nI i)) Q → Post none h sz) : Cn l G yX6_comesByGreatest cX6_comesByGreatest 4 none 4 0 0 [.ref m, .int (nI r), .int (nI i), .int rn] h sz Post := by
  refine Cn.of RX6 false (by decide) rfl (fun q => by cases q) (Nat.le_of_ble_eq_true rfl) ?_
  have hn := hX.2.2.2.2.2.2
  have hr := hX.2.2.2.2.2.1
  have k0 : ∀ (E : ET), celE E (nI i) 0 = eC E (8 * i + 0) := fun E => celE_nI E (k := 0) (by omega) (by omega)
  have k1 : ∀ (E : ET), celE E (nI i) 1 = eC E (8 * i + 1) := fun E => celE_nI E (k := 1) (by omega) (by omega)
  have k2 : ∀ (E : ET), celE E (nI i) 2 = eC E (8 * i + 2) := fun E => celE_nI E (k := 2) (by omega) (by omega)
  have k3 : ∀ (E : ET), celE E (nI i) 3 = eC E (8 * i + 3) := fun E => celE_nI E (k := 3) (by omega) (by omega)
  have k4 : ∀ (E : ET), celE E (nI i) 4 = eC E (8 * i + 4) := fun E => celE_nI E (k := 4) (by omega) (by omega)
  have k5 : ∀ (E : ET), celE E (nI i) 5 = eC E (8 * i + 5) := fun E => celE_nI E (k := 5) (by omega) (by omega)
  have k6 : ∀ (E : ET), celE E (nI i) 6 = eC E (8 * i + 6) := fun E => celE_nI E (k := 6) (by omega) (by omega)
  have k7 : ∀ (E : ET), celE E (nI i) 7 = eC E (8 * i + 7) := fun E => celE_nI E (k := 7) (by omega) (by omega)
  have hr1 : ¬ rn = 0 → eC E (8 * i + 0) = 1 := fun q => by rcases hrn with ⟨a, b⟩ | ⟨a, b⟩; exact b; exact absurd a q
  have hr0 : rn = 0 → ¬ eC E (8 * i + 0) = 1 := fun q => by rcases hrn with ⟨a, b⟩ | ⟨a, b⟩; rw [a] at q; exact absurd q (by decide); exact b
  refine V_iload_n 0 dX6_comesByGreatest_0 rfl ?_
  refine V_if_ne 1 12 dX6_comesByGreatest_1 rfl (fun c_1 => ?_) (fun c_1 => ?_)
  · refine V_aload_n 12 dX6_comesByGreatest_12 rfl ?_
    refine V_get 13 dX6_comesByGreatest_13 fdX6_88 (by first | exact hX.1.1.1 | exact hX.1.1.2.1 | exact hX.1.1.2.2.1 | exact hX.1.1.2.2.2.1 | exact hX.1.1.2.2.2.2.1 | exact hX.1.1.2.2.2.2.2.1 | exact hX.1.1.2.2.2.2.2.2.1 | exact hX.1.1.2.2.2.2.2.2.2.1 | exact hX.1.1.2.2.2.2.2.2.2.2.1 | exact hX.1.1.2.2.2.2.2.2.2.2.2.1 | exact hX.1.1.2.2.2.2.2.2.2.2.2.2) rfl ?_
    refine V_topi (eH E 2) hH.2.1 ?_
    refine V_aload_n 16 dX6_comesByGreatest_16 rfl ?_
    refine V_get 17 dX6_comesByGreatest_17 fdX6_7 (by first | exact hX.1.1.1 | exact hX.1.1.2.1 | exact hX.1.1.2.2.1 | exact hX.1.1.2.2.2.1 | exact hX.1.1.2.2.2.2.1 | exact hX.1.1.2.2.2.2.2.1 | exact hX.1.1.2.2.2.2.2.2.1 | exact hX.1.1.2.2.2.2.2.2.2.1 | exact hX.1.1.2.2.2.2.2.2.2.2.1 | exact hX.1.1.2.2.2.2.2.2.2.2.2.1 | exact hX.1.1.2.2.2.2.2.2.2.2.2.2) rfl ?_
    refine V_iload_n 20 dX6_comesByGreatest_20 rfl ?_
    refine V_ialdk 21 i (nI_clamp (by omega)) dX6_comesByGreatest_21 (by first | exact hX.1.1.1 | exact hX.1.1.2.1 | exact hX.1.1.2.2.1 | exact hX.1.1.2.2.2.1 | exact hX.1.1.2.2.2.2.1 | exact hX.1.1.2.2.2.2.2.1 | exact hX.1.1.2.2.2.2.2.2.1 | exact hX.1.1.2.2.2.2.2.2.2.1 | exact hX.1.1.2.2.2.2.2.2.2.2.1 | exact hX.1.1.2.2.2.2.2.2.2.2.2.1 | exact hX.1.1.2.2.2.2.2.2.2.2.2.2) (vp_in_nI (by omega) (by decide)) ?_
    refine V_topi (Q.2.1 i) (hX.2.2.2.1 i hi) ?_
    refine V_icmp_le 22 41 dX6_comesByGreatest_22 rfl (fun c_22 => ?_) (fun c_22 => ?_)
    · refine V_aload_n 41 dX6_comesByGreatest_41 rfl ?_
      refine V_get 42 dX6_comesByGreatest_42 fdX6_88 (by first | exact hX.1.1.1 | exact hX.1.1.2.1 | exact hX.1.1.2.2.1 | exact hX.1.1.2.2.2.1 | exact hX.1.1.2.2.2.2.1 | exact hX.1.1.2.2.2.2.2.1 | exact hX.1.1.2.2.2.2.2.2.1 | exact hX.1.1.2.2.2.2.2.2.2.1 | exact hX.1.1.2.2.2.2.2.2.2.2.1 | exact hX.1.1.2.2.2.2.2.2.2.2.2.1 | exact hX.1.1.2.2.2.2.2.2.2.2.2.2) rfl ?_
      refine V_topi (eH E 2) hH.2.1 ?_
      refine V_aload_n 45 dX6_comesByGreatest_45 rfl ?_
      refine V_get 46 dX6_comesByGreatest_46 fdX6_7 (by first | exact hX.1.1.1 | exact hX.1.1.2.1 | exact hX.1.1.2.2.1 | exact hX.1.1.2.2.2.1 | exact hX.1.1.2.2.2.2.1 | exact hX.1.1.2.2.2.2.2.1 | exact hX.1.1.2.2.2.2.2.2.1 | exact hX.1.1.2.2.2.2.2.2.2.1 | exact hX.1.1.2.2.2.2.2.2.2.2.1 | exact hX.1.1.2.2.2.2.2.2.2.2.2.1 | exact hX.1.1.2.2.2.2.2.2.2.2.2.2) rfl ?_
      refine V_iload_n 49 dX6_comesByGreatest_49 rfl ?_
      refine V_ialdk 50 i (nI_clamp (by omega)) dX6_comesByGreatest_50 (by first | exact hX.1.1.1 | exact hX.1.1.2.1 | exact hX.1.1.2.2.1 | exact hX.1.1.2.2.2.1 | exact hX.1.1.2.2.2.2.1 | exact hX.1.1.2.2.2.2.2.1 | exact hX.1.1.2.2.2.2.2.2.1 | exact hX.1.1.2.2.2.2.2.2.2.1 | exact hX.1.1.2.2.2.2.2.2.2.2.1 | exact hX.1.1.2.2.2.2.2.2.2.2.2.1 | exact hX.1.1.2.2.2.2.2.2.2.2.2.2) (vp_in_nI (by omega) (by decide)) ?_
      refine V_topi (Q.2.1 i) (hX.2.2.2.1 i hi) ?_
      refine V_icmp_ne 51 64 dX6_comesByGreatest_51 rfl (fun c_51 => ?_) (fun c_51 => ?_)
      · refine V_vret 64 dX6_comesByGreatest_64 ?_
        unfold gpE at k
        rw [k0, nmR_nI (by omega)] at k
        first
          | (rw [if_neg (hr0 (by first | exact c_1 | exact Classical.not_not.mp c_1))] at k; exact k _ _ hX)
          | (rw [if_pos (hr1 c_1), if_neg c_22] at k; exact k _ _ hX)
          | (rw [if_pos (hr1 c_1), if_pos c_22, if_pos c_51] at k; rw [c_51] at hX; exact k _ _ hX)
          | (rw [if_pos (hr1 c_1), if_pos c_22, if_neg c_51] at k; exact k _ _ hX)
      · refine V_aload_n 54 dX6_comesByGreatest_54 rfl ?_
        refine V_iload_n 55 dX6_comesByGreatest_55 rfl ?_
        refine V_iload_n 56 dX6_comesByGreatest_56 rfl ?_
        refine V_aload_n 57 dX6_comesByGreatest_57 rfl ?_
        refine V_get 58 dX6_comesByGreatest_58 fdX6_88 (by first | exact hX.1.1.1 | exact hX.1.1.2.1 | exact hX.1.1.2.2.1 | exact hX.1.1.2.2.2.1 | exact hX.1.1.2.2.2.2.1 | exact hX.1.1.2.2.2.2.2.1 | exact hX.1.1.2.2.2.2.2.2.1 | exact hX.1.1.2.2.2.2.2.2.2.1 | exact hX.1.1.2.2.2.2.2.2.2.2.1 | exact hX.1.1.2.2.2.2.2.2.2.2.2.1 | exact hX.1.1.2.2.2.2.2.2.2.2.2.2) rfl ?_
        refine V_topi (eH E 2) hH.2.1 ?_
        refine V_iv3 61 dX6_comesByGreatest_61 kvX6_104 rfl (by first | exact hX.1.1.1 | exact hX.1.1.2.1 | exact hX.1.1.2.2.1 | exact hX.1.1.2.2.2.1 | exact hX.1.1.2.2.2.2.1 | exact hX.1.1.2.2.2.2.2.1 | exact hX.1.1.2.2.2.2.2.2.1 | exact hX.1.1.2.2.2.2.2.2.2.1 | exact hX.1.1.2.2.2.2.2.2.2.2.1 | exact hX.1.1.2.2.2.2.2.2.2.2.2.1 | exact hX.1.1.2.2.2.2.2.2.2.2.2.2) rfl rfl (c_X6_heads hX i hi hc (fun h M1 hX hI => ?_))
        refine V_vret 64 dX6_comesByGreatest_64 ?_
        unfold gpE at k
        rw [k0, nmR_nI (by omega)] at k
        first
          | (rw [if_neg (hr0 (by first | exact c_1 | exact Classical.not_not.mp c_1))] at k; exact k _ _ hX)
          | (rw [if_pos (hr1 c_1), if_neg c_22] at k; exact k _ _ hX)
          | (rw [if_pos (hr1 c_1), if_pos c_22, if_pos c_51] at k; rw [c_51] at hX; exact k _ _ hX)
          | (rw [if_pos (hr1 c_1), if_pos c_22, if_neg c_51] at k; exact k _ _ hX)
    · refine V_aload_n 25 dX6_comesByGreatest_25 rfl ?_
      refine V_iload_n 26 dX6_comesByGreatest_26 rfl ?_
      refine V_iload_n 27 dX6_comesByGreatest_27 rfl ?_
      refine V_iconstv 28 (1) dX6_comesByGreatest_28 (by decide) ?_
      refine V_iconstv 29 (2) dX6_comesByGreatest_29 (by decide) ?_
      refine V_iv4 30 dX6_comesByGreatest_30 kvX6_59 rfl (by first | exact hX.1.1.1 | exact hX.1.1.2.1 | exact hX.1.1.2.2.1 | exact hX.1.1.2.2.2.1 | exact hX.1.1.2.2.2.2.1 | exact hX.1.1.2.2.2.2.2.1 | exact hX.1.1.2.2.2.2.2.2.1 | exact hX.1.1.2.2.2.2.2.2.2.1 | exact hX.1.1.2.2.2.2.2.2.2.2.1 | exact hX.1.1.2.2.2.2.2.2.2.2.2.1 | exact hX.1.1.2.2.2.2.2.2.2.2.2.2) rfl rfl (c_X6_set hX.1 r i 1 (by unfold ctA; have := hX.2.2.2.2.2; omega) (fun h hM => ?_))
      replace hX := hX.row (by unfold ctA; omega) (by have := hX.2.2.2.2.2; unfold ctA; omega) hM (hX.2.2.2.2.1.st hi hn 1 0 (by omega))
      refine V_aload_n 33 dX6_comesByGreatest_33 rfl ?_
      refine V_iload_n 34 dX6_comesByGreatest_34 rfl ?_
      refine V_iv1 35 dX6_comesByGreatest_35 kvX6_100 rfl (by first | exact hX.1.1.1 | exact hX.1.1.2.1 | exact hX.1.1.2.2.1 | exact hX.1.1.2.2.2.1 | exact hX.1.1.2.2.2.2.1 | exact hX.1.1.2.2.2.2.2.1 | exact hX.1.1.2.2.2.2.2.2.1 | exact hX.1.1.2.2.2.2.2.2.2.1 | exact hX.1.1.2.2.2.2.2.2.2.2.1 | exact hX.1.1.2.2.2.2.2.2.2.2.2.1 | exact hX.1.1.2.2.2.2.2.2.2.2.2.2) rfl rfl (c_X6_goesOn hX (hH.set _ _ _) (by rw [eN_set]; exact hc) 1 (by decide) (by rw [eH_set]; exact hk5) hln (fun h M1 hX hI => ?_))
      refine V_goto 38 64 dX6_comesByGreatest_38 rfl ?_
      refine V_vret 64 dX6_comesByGreatest_64 ?_
      unfold gpE at k
      rw [k0, nmR_nI (by omega)] at k
      first
        | (rw [if_neg (hr0 (by first | exact c_1 | exact Classical.not_not.mp c_1))] at k; exact k _ _ hX)
        | (rw [if_pos (hr1 c_1), if_neg c_22] at k; exact k _ _ hX)
        | (rw [if_pos (hr1 c_1), if_pos c_22, if_pos c_51] at k; rw [c_51] at hX; exact k _ _ hX)
        | (rw [if_pos (hr1 c_1), if_pos c_22, if_neg c_51] at k; exact k _ _ hX)
  · refine V_aload_n 4 dX6_comesByGreatest_4 rfl ?_
    refine V_iload_n 5 dX6_comesByGreatest_5 rfl ?_
    refine V_iv1 6 dX6_comesByGreatest_6 kvX6_100 rfl (by first | exact hX.1.1.1 | exact hX.1.1.2.1 | exact hX.1.1.2.2.1 | exact hX.1.1.2.2.2.1 | exact hX.1.1.2.2.2.2.1 | exact hX.1.1.2.2.2.2.2.1 | exact hX.1.1.2.2.2.2.2.2.1 | exact hX.1.1.2.2.2.2.2.2.2.1 | exact hX.1.1.2.2.2.2.2.2.2.2.1 | exact hX.1.1.2.2.2.2.2.2.2.2.2.1 | exact hX.1.1.2.2.2.2.2.2.2.2.2.2) rfl rfl (c_X6_goesOn hX (hH) (hc) 1 (by decide) (hk5) hln (fun h M1 hX hI => ?_))
    refine V_goto 9 64 dX6_comesByGreatest_9 rfl ?_
    refine V_vret 64 dX6_comesByGreatest_64 ?_
    unfold gpE at k
    rw [k0, nmR_nI (by omega)] at k
    first
      | (rw [if_neg (hr0 (by first | exact c_1 | exact Classical.not_not.mp c_1))] at k; exact k _ _ hX)
      | (rw [if_pos (hr1 c_1), if_neg c_22] at k; exact k _ _ hX)
      | (rw [if_pos (hr1 c_1), if_pos c_22, if_pos c_51] at k; rw [c_51] at hX; exact k _ _ hX)
      | (rw [if_pos (hr1 c_1), if_pos c_22, if_neg c_51] at k; exact k _ _ hX)
theorem i32_ans (i d : Int32) : 2 * i + 1 - d = 2 * i + (1 - d) := by
  rw [Int32.sub_eq_add_neg, Int32.sub_eq_add_neg, Int32.add_assoc]
def st1 (E : ET) : ET := eH' E (upd (eH E) 4 (eH E 4 - 1))
theorem HD.st1 {M : MT} {E : ET} (h : HD M E) : HD (mI M 8 (M.1 8 - 1)) (st1 E) := by
  obtain ⟨a, b, c, d, e⟩ := h
  refine ⟨a, b, c, ?_, e⟩
  show M.1 8 - 1 = eH E 4 - 1
  rw [d]
set_option maxHeartbeats 1000000 in
set_option maxRecDepth 100000 in
theorem c_X6_comesProbe (hX : WX G h0 h m M0 M r E Q) (i : Nat) (hi : i < Q.1) (rn : Int32) (hrn : (rn = 1 ∧ eC E (8 * i) = 1) ∨ (rn = 0 ∧ ¬ eC E (8 * i) = 1)) (hH : HD M E) (hc : eN E < 12) {x : Int32} (hln : M.1 10 = 2 * nI i + (x &&& 1)) (han : M.1 11 = 2 * nI i + 1 - (x &&& 1)) (hx0 : eH E 0 = x) (hk5 : eH E 1 = nI 2) (k : ∀ h M1, WX G h0 h m M0 M1 r (dl3 (go2 (gpE Q E (nI i)) (nI i)) x (nI i)) Q → Post none h sz) : Cn l G yX6_comesProbe cX6_comesProbe 4 none 4 0 0 [.ref m, .int (nI r), .int (nI i), .int rn] h sz Post := by
  refine Cn.of RX6 false (by decide) rfl (fun q => by cases q) (Nat.le_of_ble_eq_true rfl) ?_
  have hn := hX.2.2.2.2.2.2
  have hr := hX.2.2.2.2.2.1
  have k0 : ∀ (E : ET), celE E (nI i) 0 = eC E (8 * i + 0) := fun E => celE_nI E (k := 0) (by omega) (by omega)
  have k1 : ∀ (E : ET), celE E (nI i) 1 = eC E (8 * i + 1) := fun E => celE_nI E (k := 1) (by omega) (by omega)
  have k2 : ∀ (E : ET), celE E (nI i) 2 = eC E (8 * i + 2) := fun E => celE_nI E (k := 2) (by omega) (by omega)
  have k3 : ∀ (E : ET), celE E (nI i) 3 = eC E (8 * i + 3) := fun E => celE_nI E (k := 3) (by omega) (by omega)
  have k4 : ∀ (E : ET), celE E (nI i) 4 = eC E (8 * i + 4) := fun E => celE_nI E (k := 4) (by omega) (by omega)
  have k5 : ∀ (E : ET), celE E (nI i) 5 = eC E (8 * i + 5) := fun E => celE_nI E (k := 5) (by omega) (by omega)
  have k6 : ∀ (E : ET), celE E (nI i) 6 = eC E (8 * i + 6) := fun E => celE_nI E (k := 6) (by omega) (by omega)
  have k7 : ∀ (E : ET), celE E (nI i) 7 = eC E (8 * i + 7) := fun E => celE_nI E (k := 7) (by omega) (by omega)
  have hr1 : ¬ rn = 0 → eC E (8 * i + 0) = 1 := fun q => by rcases hrn with ⟨a, b⟩ | ⟨a, b⟩; exact b; exact absurd a q
  have hr0 : rn = 0 → ¬ eC E (8 * i + 0) = 1 := fun q => by rcases hrn with ⟨a, b⟩ | ⟨a, b⟩; rw [a] at q; exact absurd q (by decide); exact b
  by_cases c_r : rn = 0
  · refine V_iload_n 0 dX6_comesProbe_0 rfl ?_
    refine V_if_eq 1 28 dX6_comesProbe_1 rfl (fun _ => ?_) (fun q => absurd c_r q)
    refine V_iload_n 28 dX6_comesProbe_28 rfl ?_
    refine V_if_eq 29 46 dX6_comesProbe_29 rfl (fun _ => ?_) (fun q => absurd c_r q)
    refine V_iload_n 46 dX6_comesProbe_46 rfl ?_
    refine V_if_eq 47 58 dX6_comesProbe_47 rfl (fun _ => ?_) (fun q => absurd c_r q)
    refine V_aload_n 58 dX6_comesProbe_58 rfl ?_
    refine V_dupr 59 dX6_comesProbe_59 ?_
    refine V_get 60 dX6_comesProbe_60 fdX6_94 (by first | exact hX.1.1.1 | exact hX.1.1.2.1 | exact hX.1.1.2.2.1 | exact hX.1.1.2.2.2.1 | exact hX.1.1.2.2.2.2.1 | exact hX.1.1.2.2.2.2.2.1 | exact hX.1.1.2.2.2.2.2.2.1 | exact hX.1.1.2.2.2.2.2.2.2.1 | exact hX.1.1.2.2.2.2.2.2.2.2.1 | exact hX.1.1.2.2.2.2.2.2.2.2.2.1 | exact hX.1.1.2.2.2.2.2.2.2.2.2.2) rfl ?_
    refine V_iconstv 63 (1) dX6_comesProbe_63 (by decide) ?_
    refine V_isub 64 dX6_comesProbe_64 ?_
    refine V_putM 65 dX6_comesProbe_65 fpX6_94 hX.1 rfl rfl (fun h hM => ?_)
    have hX2 := (hX.scr (by omega) (by omega) hM).hand (upd (eH E) 4 (eH E 4 - 1))
    clear hX hM
    have hX := hX2
    clear hX2
    have hH2 := (hH).st1
    have h84 : _ = eH (st1 E) 4 := hH2.2.2.2.1
    refine V_aload_n 68 dX6_comesProbe_68 rfl ?_
    refine V_get 69 dX6_comesProbe_69 fdX6_94 (by first | exact hX.1.1.1 | exact hX.1.1.2.1 | exact hX.1.1.2.2.1 | exact hX.1.1.2.2.2.1 | exact hX.1.1.2.2.2.2.1 | exact hX.1.1.2.2.2.2.2.1 | exact hX.1.1.2.2.2.2.2.2.1 | exact hX.1.1.2.2.2.2.2.2.2.1 | exact hX.1.1.2.2.2.2.2.2.2.2.1 | exact hX.1.1.2.2.2.2.2.2.2.2.2.1 | exact hX.1.1.2.2.2.2.2.2.2.2.2.2) rfl ?_
    refine V_topi _ h84 ?_
    refine V_iconstv 72 (1) dX6_comesProbe_72 (by decide) ?_
    refine V_icmp_lt 73 84 dX6_comesProbe_73 rfl (fun c_73 => ?_) (fun c_73 => ?_)
    · refine V_aload_n 84 dX6_comesProbe_84 rfl ?_
      refine V_iload_n 85 dX6_comesProbe_85 rfl ?_
      refine V_aload_n 86 dX6_comesProbe_86 rfl ?_
      refine V_get 87 dX6_comesProbe_87 fdX6_108 (by first | exact hX.1.1.1 | exact hX.1.1.2.1 | exact hX.1.1.2.2.1 | exact hX.1.1.2.2.2.1 | exact hX.1.1.2.2.2.2.1 | exact hX.1.1.2.2.2.2.2.1 | exact hX.1.1.2.2.2.2.2.2.1 | exact hX.1.1.2.2.2.2.2.2.2.1 | exact hX.1.1.2.2.2.2.2.2.2.2.1 | exact hX.1.1.2.2.2.2.2.2.2.2.2.1 | exact hX.1.1.2.2.2.2.2.2.2.2.2.2) rfl ?_
      refine V_topi (2 * nI i + (1 - (x &&& 1))) (by rw [← i32_ans]; exact han) ?_
      refine V_iconstv 90 (3) dX6_comesProbe_90 (by decide) ?_
      refine V_aload_n 91 dX6_comesProbe_91 rfl ?_
      refine V_get 92 dX6_comesProbe_92 fdX6_88 (by first | exact hX.1.1.1 | exact hX.1.1.2.1 | exact hX.1.1.2.2.1 | exact hX.1.1.2.2.2.1 | exact hX.1.1.2.2.2.2.1 | exact hX.1.1.2.2.2.2.2.1 | exact hX.1.1.2.2.2.2.2.2.1 | exact hX.1.1.2.2.2.2.2.2.2.1 | exact hX.1.1.2.2.2.2.2.2.2.2.1 | exact hX.1.1.2.2.2.2.2.2.2.2.2.1 | exact hX.1.1.2.2.2.2.2.2.2.2.2.2) rfl ?_
      refine V_topi (eH (st1 E) 2) hH2.2.1 ?_
      refine V_aload_n 95 dX6_comesProbe_95 rfl ?_
      refine V_get 96 dX6_comesProbe_96 fdX6_91 (by first | exact hX.1.1.1 | exact hX.1.1.2.1 | exact hX.1.1.2.2.1 | exact hX.1.1.2.2.2.1 | exact hX.1.1.2.2.2.2.1 | exact hX.1.1.2.2.2.2.2.1 | exact hX.1.1.2.2.2.2.2.2.1 | exact hX.1.1.2.2.2.2.2.2.2.1 | exact hX.1.1.2.2.2.2.2.2.2.2.1 | exact hX.1.1.2.2.2.2.2.2.2.2.2.1 | exact hX.1.1.2.2.2.2.2.2.2.2.2.2) rfl ?_
      refine V_topi (eH (st1 E) 3) hH2.2.2.1 ?_
      refine V_iconstv 99 (-1) dX6_comesProbe_99 (by decide) ?_
      refine V_iconstv 100 (-1) dX6_comesProbe_100 (by decide) ?_
      refine V_iv7 101 dX6_comesProbe_101 kvX6_63 rfl (by first | exact hX.1.1.1 | exact hX.1.1.2.1 | exact hX.1.1.2.2.1 | exact hX.1.1.2.2.2.1 | exact hX.1.1.2.2.2.2.1 | exact hX.1.1.2.2.2.2.2.1 | exact hX.1.1.2.2.2.2.2.2.1 | exact hX.1.1.2.2.2.2.2.2.2.1 | exact hX.1.1.2.2.2.2.2.2.2.2.1 | exact hX.1.1.2.2.2.2.2.2.2.2.2.1 | exact hX.1.1.2.2.2.2.2.2.2.2.2.2) rfl rfl (c_X6_sends (E := st1 E) hX (by show eN E < 12; exact hc) 3 (by decide) (fun h M1 hX hI => ?_))
      refine V_vret 104 dX6_comesProbe_104 ?_
      unfold go2 gpE at k
      rw [k0, nmR_nI (by omega), if_neg (hr0 c_r)] at k
      unfold pgE pg1 at k
      have k := k
      change ∀ h M1, WX G h0 h m M0 M1 r (dl3 (if b2i true = 0 then (false, E) else if eH (st1 E) 4 < 1 then (false, sndE (st1 E) (2 * nI i + (1 - (eH (st1 E) 0 &&& 1))) 3 (eH (st1 E) 2) (eH (st1 E) 3) (-1) (-1)) else (true, st1 E)) x (nI i)) Q → Post none h sz at k
      rw [if_neg (by decide), if_pos c_73] at k
      have ex : eH (st1 E) 0 = x := by show eH E 0 = x; exact hx0
      rw [ex] at k
      exact k _ _ hX
    · refine V_aload_n 76 dX6_comesProbe_76 rfl ?_
      refine V_iload_n 77 dX6_comesProbe_77 rfl ?_
      refine V_iv1 78 dX6_comesProbe_78 kvX6_100 rfl (by first | exact hX.1.1.1 | exact hX.1.1.2.1 | exact hX.1.1.2.2.1 | exact hX.1.1.2.2.2.1 | exact hX.1.1.2.2.2.2.1 | exact hX.1.1.2.2.2.2.2.1 | exact hX.1.1.2.2.2.2.2.2.1 | exact hX.1.1.2.2.2.2.2.2.2.1 | exact hX.1.1.2.2.2.2.2.2.2.2.1 | exact hX.1.1.2.2.2.2.2.2.2.2.2.1 | exact hX.1.1.2.2.2.2.2.2.2.2.2.2) rfl rfl (c_X6_goesOn (E := st1 E) hX hH2 (by show eN E < 12; exact hc) 2 (by decide) (by show eH E 1 = nI 2; exact hk5) hln (fun h M1 hX hI => ?_))
      refine V_goto 81 104 dX6_comesProbe_81 rfl ?_
      refine V_vret 104 dX6_comesProbe_104 ?_
      unfold go2 gpE at k
      rw [k0, nmR_nI (by omega), if_neg (hr0 c_r)] at k
      unfold pgE pg1 at k
      change ∀ h M1, WX G h0 h m M0 M1 r (dl3 (if b2i true = 0 then (false, E) else if eH (st1 E) 4 < 1 then (false, sndE (st1 E) (2 * nI i + (1 - (eH (st1 E) 0 &&& 1))) 3 (eH (st1 E) 2) (eH (st1 E) 3) (-1) (-1)) else (true, st1 E)) x (nI i)) Q → Post none h sz at k
      rw [if_neg (by decide), if_neg c_73] at k
      exact k _ _ hX
  · refine V_iload_n 0 dX6_comesProbe_0 rfl ?_
    refine V_if_eq 1 28 dX6_comesProbe_1 rfl (fun q => absurd q c_r) (fun _ => ?_)
    refine V_aload_n 4 dX6_comesProbe_4 rfl ?_
    refine V_get 5 dX6_comesProbe_5 fdX6_88 (by first | exact hX.1.1.1 | exact hX.1.1.2.1 | exact hX.1.1.2.2.1 | exact hX.1.1.2.2.2.1 | exact hX.1.1.2.2.2.2.1 | exact hX.1.1.2.2.2.2.2.1 | exact hX.1.1.2.2.2.2.2.2.1 | exact hX.1.1.2.2.2.2.2.2.2.1 | exact hX.1.1.2.2.2.2.2.2.2.2.1 | exact hX.1.1.2.2.2.2.2.2.2.2.2.1 | exact hX.1.1.2.2.2.2.2.2.2.2.2.2) rfl ?_
    refine V_topi (eH E 2) hH.2.1 ?_
    refine V_aload_n 8 dX6_comesProbe_8 rfl ?_
    refine V_get 9 dX6_comesProbe_9 fdX6_7 (by first | exact hX.1.1.1 | exact hX.1.1.2.1 | exact hX.1.1.2.2.1 | exact hX.1.1.2.2.2.1 | exact hX.1.1.2.2.2.2.1 | exact hX.1.1.2.2.2.2.2.1 | exact hX.1.1.2.2.2.2.2.2.1 | exact hX.1.1.2.2.2.2.2.2.2.1 | exact hX.1.1.2.2.2.2.2.2.2.2.1 | exact hX.1.1.2.2.2.2.2.2.2.2.2.1 | exact hX.1.1.2.2.2.2.2.2.2.2.2.2) rfl ?_
    refine V_iload_n 12 dX6_comesProbe_12 rfl ?_
    refine V_ialdk 13 i (nI_clamp (by omega)) dX6_comesProbe_13 (by first | exact hX.1.1.1 | exact hX.1.1.2.1 | exact hX.1.1.2.2.1 | exact hX.1.1.2.2.2.1 | exact hX.1.1.2.2.2.2.1 | exact hX.1.1.2.2.2.2.2.1 | exact hX.1.1.2.2.2.2.2.2.1 | exact hX.1.1.2.2.2.2.2.2.2.1 | exact hX.1.1.2.2.2.2.2.2.2.2.1 | exact hX.1.1.2.2.2.2.2.2.2.2.2.1 | exact hX.1.1.2.2.2.2.2.2.2.2.2.2) (vp_in_nI (by omega) (by decide)) ?_
    refine V_topi (Q.2.1 i) (hX.2.2.2.1 i hi) ?_
    refine V_icmp_ne 14 28 dX6_comesProbe_14 rfl (fun c_14 => ?_) (fun c_14 => ?_)
    · refine V_iload_n 28 dX6_comesProbe_28 rfl ?_
      refine V_if_eq 29 46 dX6_comesProbe_29 rfl (fun q => absurd q c_r) (fun _ => ?_)
      refine V_aload_n 32 dX6_comesProbe_32 rfl ?_
      refine V_get 33 dX6_comesProbe_33 fdX6_88 (by first | exact hX.1.1.1 | exact hX.1.1.2.1 | exact hX.1.1.2.2.1 | exact hX.1.1.2.2.2.1 | exact hX.1.1.2.2.2.2.1 | exact hX.1.1.2.2.2.2.2.1 | exact hX.1.1.2.2.2.2.2.2.1 | exact hX.1.1.2.2.2.2.2.2.2.1 | exact hX.1.1.2.2.2.2.2.2.2.2.1 | exact hX.1.1.2.2.2.2.2.2.2.2.2.1 | exact hX.1.1.2.2.2.2.2.2.2.2.2.2) rfl ?_
      refine V_topi (eH E 2) hH.2.1 ?_
      refine V_aload_n 36 dX6_comesProbe_36 rfl ?_
      refine V_get 37 dX6_comesProbe_37 fdX6_7 (by first | exact hX.1.1.1 | exact hX.1.1.2.1 | exact hX.1.1.2.2.1 | exact hX.1.1.2.2.2.1 | exact hX.1.1.2.2.2.2.1 | exact hX.1.1.2.2.2.2.2.1 | exact hX.1.1.2.2.2.2.2.2.1 | exact hX.1.1.2.2.2.2.2.2.2.1 | exact hX.1.1.2.2.2.2.2.2.2.2.1 | exact hX.1.1.2.2.2.2.2.2.2.2.2.1 | exact hX.1.1.2.2.2.2.2.2.2.2.2.2) rfl ?_
      refine V_iload_n 40 dX6_comesProbe_40 rfl ?_
      refine V_ialdk 41 i (nI_clamp (by omega)) dX6_comesProbe_41 (by first | exact hX.1.1.1 | exact hX.1.1.2.1 | exact hX.1.1.2.2.1 | exact hX.1.1.2.2.2.1 | exact hX.1.1.2.2.2.2.1 | exact hX.1.1.2.2.2.2.2.1 | exact hX.1.1.2.2.2.2.2.2.1 | exact hX.1.1.2.2.2.2.2.2.2.1 | exact hX.1.1.2.2.2.2.2.2.2.2.1 | exact hX.1.1.2.2.2.2.2.2.2.2.2.1 | exact hX.1.1.2.2.2.2.2.2.2.2.2.2) (vp_in_nI (by omega) (by decide)) ?_
      refine V_topi (Q.2.1 i) (hX.2.2.2.1 i hi) ?_
      refine V_icmp_ge 42 46 dX6_comesProbe_42 rfl (fun c_42 => ?_) (fun c_42 => ?_)
      · refine V_iload_n 46 dX6_comesProbe_46 rfl ?_
        refine V_if_eq 47 58 dX6_comesProbe_47 rfl (fun q => absurd q c_r) (fun _ => ?_)
        refine V_aload_n 50 dX6_comesProbe_50 rfl ?_
        refine V_iload_n 51 dX6_comesProbe_51 rfl ?_
        refine V_iload_n 52 dX6_comesProbe_52 rfl ?_
        refine V_iconstv 53 (1) dX6_comesProbe_53 (by decide) ?_
        refine V_iconstv 54 (2) dX6_comesProbe_54 (by decide) ?_
        refine V_iv4 55 dX6_comesProbe_55 kvX6_59 rfl (by first | exact hX.1.1.1 | exact hX.1.1.2.1 | exact hX.1.1.2.2.1 | exact hX.1.1.2.2.2.1 | exact hX.1.1.2.2.2.2.1 | exact hX.1.1.2.2.2.2.2.1 | exact hX.1.1.2.2.2.2.2.2.1 | exact hX.1.1.2.2.2.2.2.2.2.1 | exact hX.1.1.2.2.2.2.2.2.2.2.1 | exact hX.1.1.2.2.2.2.2.2.2.2.2.1 | exact hX.1.1.2.2.2.2.2.2.2.2.2.2) rfl rfl (c_X6_set hX.1 r i 1 (by unfold ctA; have := hX.2.2.2.2.2; omega) (fun h hM => ?_))
        replace hX := hX.row (by unfold ctA; omega) (by have := hX.2.2.2.2.2; unfold ctA; omega) hM (hX.2.2.2.2.1.st hi hn 1 0 (by omega))
        refine V_aload_n 58 dX6_comesProbe_58 rfl ?_
        refine V_dupr 59 dX6_comesProbe_59 ?_
        refine V_get 60 dX6_comesProbe_60 fdX6_94 (by first | exact hX.1.1.1 | exact hX.1.1.2.1 | exact hX.1.1.2.2.1 | exact hX.1.1.2.2.2.1 | exact hX.1.1.2.2.2.2.1 | exact hX.1.1.2.2.2.2.2.1 | exact hX.1.1.2.2.2.2.2.2.1 | exact hX.1.1.2.2.2.2.2.2.2.1 | exact hX.1.1.2.2.2.2.2.2.2.2.1 | exact hX.1.1.2.2.2.2.2.2.2.2.2.1 | exact hX.1.1.2.2.2.2.2.2.2.2.2.2) rfl ?_
        refine V_iconstv 63 (1) dX6_comesProbe_63 (by decide) ?_
        refine V_isub 64 dX6_comesProbe_64 ?_
        refine V_putM 65 dX6_comesProbe_65 fpX6_94 hX.1 rfl rfl (fun h hM => ?_)
        have hX2 := (hX.scr (by omega) (by omega) hM).hand (upd (eH (setE E (nI i) 0 2)) 4 (eH (setE E (nI i) 0 2) 4 - 1))
        clear hX hM
        have hX := hX2
        clear hX2
        have hH2 := (hH.set (nI i) 0 2).st1
        have h84 : _ = eH (st1 (setE E (nI i) 0 2)) 4 := hH2.2.2.2.1
        refine V_aload_n 68 dX6_comesProbe_68 rfl ?_
        refine V_get 69 dX6_comesProbe_69 fdX6_94 (by first | exact hX.1.1.1 | exact hX.1.1.2.1 | exact hX.1.1.2.2.1 | exact hX.1.1.2.2.2.1 | exact hX.1.1.2.2.2.2.1 | exact hX.1.1.2.2.2.2.2.1 | exact hX.1.1.2.2.2.2.2.2.1 | exact hX.1.1.2.2.2.2.2.2.2.1 | exact hX.1.1.2.2.2.2.2.2.2.2.1 | exact hX.1.1.2.2.2.2.2.2.2.2.2.1 | exact hX.1.1.2.2.2.2.2.2.2.2.2.2) rfl ?_
        refine V_topi _ h84 ?_
        refine V_iconstv 72 (1) dX6_comesProbe_72 (by decide) ?_
        refine V_icmp_lt 73 84 dX6_comesProbe_73 rfl (fun c_73 => ?_) (fun c_73 => ?_)
        · refine V_aload_n 84 dX6_comesProbe_84 rfl ?_
          refine V_iload_n 85 dX6_comesProbe_85 rfl ?_
          refine V_aload_n 86 dX6_comesProbe_86 rfl ?_
          refine V_get 87 dX6_comesProbe_87 fdX6_108 (by first | exact hX.1.1.1 | exact hX.1.1.2.1 | exact hX.1.1.2.2.1 | exact hX.1.1.2.2.2.1 | exact hX.1.1.2.2.2.2.1 | exact hX.1.1.2.2.2.2.2.1 | exact hX.1.1.2.2.2.2.2.2.1 | exact hX.1.1.2.2.2.2.2.2.2.1 | exact hX.1.1.2.2.2.2.2.2.2.2.1 | exact hX.1.1.2.2.2.2.2.2.2.2.2.1 | exact hX.1.1.2.2.2.2.2.2.2.2.2.2) rfl ?_
          refine V_topi (2 * nI i + (1 - (x &&& 1))) (by rw [← i32_ans]; exact han) ?_
          refine V_iconstv 90 (3) dX6_comesProbe_90 (by decide) ?_
          refine V_aload_n 91 dX6_comesProbe_91 rfl ?_
          refine V_get 92 dX6_comesProbe_92 fdX6_88 (by first | exact hX.1.1.1 | exact hX.1.1.2.1 | exact hX.1.1.2.2.1 | exact hX.1.1.2.2.2.1 | exact hX.1.1.2.2.2.2.1 | exact hX.1.1.2.2.2.2.2.1 | exact hX.1.1.2.2.2.2.2.2.1 | exact hX.1.1.2.2.2.2.2.2.2.1 | exact hX.1.1.2.2.2.2.2.2.2.2.1 | exact hX.1.1.2.2.2.2.2.2.2.2.2.1 | exact hX.1.1.2.2.2.2.2.2.2.2.2.2) rfl ?_
          refine V_topi (eH (st1 (setE E (nI i) 0 2)) 2) hH2.2.1 ?_
          refine V_aload_n 95 dX6_comesProbe_95 rfl ?_
          refine V_get 96 dX6_comesProbe_96 fdX6_91 (by first | exact hX.1.1.1 | exact hX.1.1.2.1 | exact hX.1.1.2.2.1 | exact hX.1.1.2.2.2.1 | exact hX.1.1.2.2.2.2.1 | exact hX.1.1.2.2.2.2.2.1 | exact hX.1.1.2.2.2.2.2.2.1 | exact hX.1.1.2.2.2.2.2.2.2.1 | exact hX.1.1.2.2.2.2.2.2.2.2.1 | exact hX.1.1.2.2.2.2.2.2.2.2.2.1 | exact hX.1.1.2.2.2.2.2.2.2.2.2.2) rfl ?_
          refine V_topi (eH (st1 (setE E (nI i) 0 2)) 3) hH2.2.2.1 ?_
          refine V_iconstv 99 (-1) dX6_comesProbe_99 (by decide) ?_
          refine V_iconstv 100 (-1) dX6_comesProbe_100 (by decide) ?_
          refine V_iv7 101 dX6_comesProbe_101 kvX6_63 rfl (by first | exact hX.1.1.1 | exact hX.1.1.2.1 | exact hX.1.1.2.2.1 | exact hX.1.1.2.2.2.1 | exact hX.1.1.2.2.2.2.1 | exact hX.1.1.2.2.2.2.2.1 | exact hX.1.1.2.2.2.2.2.2.1 | exact hX.1.1.2.2.2.2.2.2.2.1 | exact hX.1.1.2.2.2.2.2.2.2.2.1 | exact hX.1.1.2.2.2.2.2.2.2.2.2.1 | exact hX.1.1.2.2.2.2.2.2.2.2.2.2) rfl rfl (c_X6_sends (E := st1 (setE E (nI i) 0 2)) hX (by show eN (setE E (nI i) 0 2) < 12; rw [eN_set]; exact hc) 3 (by decide) (fun h M1 hX hI => ?_))
          refine V_vret 104 dX6_comesProbe_104 ?_
          unfold go2 gpE at k
          rw [k0, nmR_nI (by omega), if_pos (hr1 c_r), if_neg (fun q => c_14 (Int32.le_antisymm q c_42))] at k
          unfold pgE pg1 at k
          have k := k
          change ∀ h M1, WX G h0 h m M0 M1 r (dl3 (if b2i true = 0 then (false, (setE E (nI i) 0 2)) else if eH (st1 (setE E (nI i) 0 2)) 4 < 1 then (false, sndE (st1 (setE E (nI i) 0 2)) (2 * nI i + (1 - (eH (st1 (setE E (nI i) 0 2)) 0 &&& 1))) 3 (eH (st1 (setE E (nI i) 0 2)) 2) (eH (st1 (setE E (nI i) 0 2)) 3) (-1) (-1)) else (true, st1 (setE E (nI i) 0 2))) x (nI i)) Q → Post none h sz at k
          rw [if_neg (by decide), if_pos c_73] at k
          have ex : eH (st1 (setE E (nI i) 0 2)) 0 = x := by show eH (setE E (nI i) 0 2) 0 = x; rw [eH_set]; exact hx0
          rw [ex] at k
          exact k _ _ hX
        · refine V_aload_n 76 dX6_comesProbe_76 rfl ?_
          refine V_iload_n 77 dX6_comesProbe_77 rfl ?_
          refine V_iv1 78 dX6_comesProbe_78 kvX6_100 rfl (by first | exact hX.1.1.1 | exact hX.1.1.2.1 | exact hX.1.1.2.2.1 | exact hX.1.1.2.2.2.1 | exact hX.1.1.2.2.2.2.1 | exact hX.1.1.2.2.2.2.2.1 | exact hX.1.1.2.2.2.2.2.2.1 | exact hX.1.1.2.2.2.2.2.2.2.1 | exact hX.1.1.2.2.2.2.2.2.2.2.1 | exact hX.1.1.2.2.2.2.2.2.2.2.2.1 | exact hX.1.1.2.2.2.2.2.2.2.2.2.2) rfl rfl (c_X6_goesOn (E := st1 (setE E (nI i) 0 2)) hX hH2 (by show eN (setE E (nI i) 0 2) < 12; rw [eN_set]; exact hc) 2 (by decide) (by show eH (setE E (nI i) 0 2) 1 = nI 2; rw [eH_set]; exact hk5) hln (fun h M1 hX hI => ?_))
          refine V_goto 81 104 dX6_comesProbe_81 rfl ?_
          refine V_vret 104 dX6_comesProbe_104 ?_
          unfold go2 gpE at k
          rw [k0, nmR_nI (by omega), if_pos (hr1 c_r), if_neg (fun q => c_14 (Int32.le_antisymm q c_42))] at k
          unfold pgE pg1 at k
          change ∀ h M1, WX G h0 h m M0 M1 r (dl3 (if b2i true = 0 then (false, (setE E (nI i) 0 2)) else if eH (st1 (setE E (nI i) 0 2)) 4 < 1 then (false, sndE (st1 (setE E (nI i) 0 2)) (2 * nI i + (1 - (eH (st1 (setE E (nI i) 0 2)) 0 &&& 1))) 3 (eH (st1 (setE E (nI i) 0 2)) 2) (eH (st1 (setE E (nI i) 0 2)) 3) (-1) (-1)) else (true, st1 (setE E (nI i) 0 2))) x (nI i)) Q → Post none h sz at k
          rw [if_neg (by decide), if_neg c_73] at k
          exact k _ _ hX
      · refine V_vret 45 dX6_comesProbe_45 ?_
        unfold gpE at k
        rw [k0, nmR_nI (by omega), if_pos (hr1 c_r), if_pos (Int32.le_of_lt (Int32.not_le.mp c_42)), if_neg c_14] at k
        exact k _ _ hX
    · refine V_aload_n 17 dX6_comesProbe_17 rfl ?_
      refine V_iload_n 18 dX6_comesProbe_18 rfl ?_
      refine V_iload_n 19 dX6_comesProbe_19 rfl ?_
      refine V_aload_n 20 dX6_comesProbe_20 rfl ?_
      refine V_get 21 dX6_comesProbe_21 fdX6_88 (by first | exact hX.1.1.1 | exact hX.1.1.2.1 | exact hX.1.1.2.2.1 | exact hX.1.1.2.2.2.1 | exact hX.1.1.2.2.2.2.1 | exact hX.1.1.2.2.2.2.2.1 | exact hX.1.1.2.2.2.2.2.2.1 | exact hX.1.1.2.2.2.2.2.2.2.1 | exact hX.1.1.2.2.2.2.2.2.2.2.1 | exact hX.1.1.2.2.2.2.2.2.2.2.2.1 | exact hX.1.1.2.2.2.2.2.2.2.2.2.2) rfl ?_
      refine V_topi (eH E 2) hH.2.1 ?_
      refine V_iv3 24 dX6_comesProbe_24 kvX6_104 rfl (by first | exact hX.1.1.1 | exact hX.1.1.2.1 | exact hX.1.1.2.2.1 | exact hX.1.1.2.2.2.1 | exact hX.1.1.2.2.2.2.1 | exact hX.1.1.2.2.2.2.2.1 | exact hX.1.1.2.2.2.2.2.2.1 | exact hX.1.1.2.2.2.2.2.2.2.1 | exact hX.1.1.2.2.2.2.2.2.2.2.1 | exact hX.1.1.2.2.2.2.2.2.2.2.2.1 | exact hX.1.1.2.2.2.2.2.2.2.2.2.2) rfl rfl (c_X6_heads hX i hi hc (fun h M1 hX hI => ?_))
      refine V_vret 27 dX6_comesProbe_27 ?_
      unfold gpE at k
      rw [k0, nmR_nI (by omega), if_pos (hr1 c_r), if_pos (by rw [c_14]; exact Int32.le_refl _), if_pos c_14] at k
      rw [c_14] at hX
      exact k _ _ hX
set_option maxHeartbeats 1000000 in
set_option maxRecDepth 100000 in
theorem c_X6_comesReply (hX : WX G h0 h m M0 M r E Q) (i : Nat) (hi : i < Q.1) (rn : Int32) (hrn : (rn = 1 ∧ eC E (8 * i) = 1) ∨ (rn = 0 ∧ ¬ eC E (8 * i) = 1)) (hH : HD M E) (hc : eN E < 12) {x : Int32} (hln : M.1 10 = 2 * nI i + (x &&& 1)) (hk5 : eH E 1 = nI 3) (hw2 : eW E = 2) (h2 : eH E 2 = Q.2.1 i → eC E (8 * i) = 1 → eC E (8 * i + 5) + 1 = 2 → eN E ≤ 10) (k : ∀ h M1, WX G h0 h m M0 M1 r (dl3 (ryE Q E (nI i)) x (nI i)) Q → Post none h sz) : Cn l G yX6_comesReply cX6_comesReply 4 none 3 0 0 [.ref m, .int (nI r), .int (nI i), .int rn] h sz Post := by
  refine Cn.of RX6 false (by decide) rfl (fun q => by cases q) (Nat.le_of_ble_eq_true rfl) ?_
  have hn := hX.2.2.2.2.2.2
  have hr := hX.2.2.2.2.2.1
  have k0 : ∀ (E : ET), celE E (nI i) 0 = eC E (8 * i + 0) := fun E => celE_nI E (k := 0) (by omega) (by omega)
  have k1 : ∀ (E : ET), celE E (nI i) 1 = eC E (8 * i + 1) := fun E => celE_nI E (k := 1) (by omega) (by omega)
  have k2 : ∀ (E : ET), celE E (nI i) 2 = eC E (8 * i + 2) := fun E => celE_nI E (k := 2) (by omega) (by omega)
  have k3 : ∀ (E : ET), celE E (nI i) 3 = eC E (8 * i + 3) := fun E => celE_nI E (k := 3) (by omega) (by omega)
  have k4 : ∀ (E : ET), celE E (nI i) 4 = eC E (8 * i + 4) := fun E => celE_nI E (k := 4) (by omega) (by omega)
  have k5 : ∀ (E : ET), celE E (nI i) 5 = eC E (8 * i + 5) := fun E => celE_nI E (k := 5) (by omega) (by omega)
  have k6 : ∀ (E : ET), celE E (nI i) 6 = eC E (8 * i + 6) := fun E => celE_nI E (k := 6) (by omega) (by omega)
  have k7 : ∀ (E : ET), celE E (nI i) 7 = eC E (8 * i + 7) := fun E => celE_nI E (k := 7) (by omega) (by omega)
  have hr1 : ¬ rn = 0 → eC E (8 * i + 0) = 1 := fun q => by rcases hrn with ⟨a, b⟩ | ⟨a, b⟩; exact b; exact absurd a q
  have hr0 : rn = 0 → ¬ eC E (8 * i + 0) = 1 := fun q => by rcases hrn with ⟨a, b⟩ | ⟨a, b⟩; rw [a] at q; exact absurd q (by decide); exact b
  refine V_aload_n 0 dX6_comesReply_0 rfl ?_
  refine V_get 1 dX6_comesReply_1 fdX6_88 (by first | exact hX.1.1.1 | exact hX.1.1.2.1 | exact hX.1.1.2.2.1 | exact hX.1.1.2.2.2.1 | exact hX.1.1.2.2.2.2.1 | exact hX.1.1.2.2.2.2.2.1 | exact hX.1.1.2.2.2.2.2.2.1 | exact hX.1.1.2.2.2.2.2.2.2.1 | exact hX.1.1.2.2.2.2.2.2.2.2.1 | exact hX.1.1.2.2.2.2.2.2.2.2.2.1 | exact hX.1.1.2.2.2.2.2.2.2.2.2.2) rfl ?_
  refine V_topi (eH E 2) hH.2.1 ?_
  refine V_aload_n 4 dX6_comesReply_4 rfl ?_
  refine V_get 5 dX6_comesReply_5 fdX6_7 (by first | exact hX.1.1.1 | exact hX.1.1.2.1 | exact hX.1.1.2.2.1 | exact hX.1.1.2.2.2.1 | exact hX.1.1.2.2.2.2.1 | exact hX.1.1.2.2.2.2.2.1 | exact hX.1.1.2.2.2.2.2.2.1 | exact hX.1.1.2.2.2.2.2.2.2.1 | exact hX.1.1.2.2.2.2.2.2.2.2.1 | exact hX.1.1.2.2.2.2.2.2.2.2.2.1 | exact hX.1.1.2.2.2.2.2.2.2.2.2.2) rfl ?_
  refine V_iload_n 8 dX6_comesReply_8 rfl ?_
  refine V_ialdk 9 i (nI_clamp (by omega)) dX6_comesReply_9 (by first | exact hX.1.1.1 | exact hX.1.1.2.1 | exact hX.1.1.2.2.1 | exact hX.1.1.2.2.2.1 | exact hX.1.1.2.2.2.2.1 | exact hX.1.1.2.2.2.2.2.1 | exact hX.1.1.2.2.2.2.2.2.1 | exact hX.1.1.2.2.2.2.2.2.2.1 | exact hX.1.1.2.2.2.2.2.2.2.2.1 | exact hX.1.1.2.2.2.2.2.2.2.2.2.1 | exact hX.1.1.2.2.2.2.2.2.2.2.2.2) (vp_in_nI (by omega) (by decide)) ?_
  refine V_topi (Q.2.1 i) (hX.2.2.2.1 i hi) ?_
  refine V_icmp_eq 10 19 dX6_comesReply_10 rfl (fun c_10 => ?_) (fun c_10 => ?_)
  · refine V_iload_n 19 dX6_comesReply_19 rfl ?_
    refine V_if_eq 20 72 dX6_comesReply_20 rfl (fun c_20 => ?_) (fun c_20 => ?_)
    · refine V_vret 72 dX6_comesReply_72 ?_
      unfold ryE at k
      rw [nmR_nI (by omega)] at k
      first
        | (rw [if_neg c_10] at k; exact k _ _ hX)
        | (rw [if_pos c_10, k0, if_neg (hr0 c_20)] at k; exact k _ _ hX)
        | (rw [if_pos c_10, k0, if_pos (hr1 c_20)] at k
           unfold ry1 at k
           rw [k5, k5, show eC (setE E (nI i) 5 (eC E (8 * i + 5) + 1)) (8 * i + 5) = eC E (8 * i + 5) + 1 from by rw [show (5 : Int32) = nI 5 from rfl, eC_set E (by omega) (by omega), pk_us]] at k
           first
             | (rw [if_pos e_47, k3] at k; exact k _ _ hX)
             | (rw [if_neg e_47] at k; exact k _ _ hX))
    · refine V_aload_n 23 dX6_comesReply_23 rfl ?_
      refine V_iload_n 24 dX6_comesReply_24 rfl ?_
      refine V_iload_n 25 dX6_comesReply_25 rfl ?_
      refine V_iconstv 26 (5) dX6_comesReply_26 (by decide) ?_
      refine V_aload_n 27 dX6_comesReply_27 rfl ?_
      refine V_iload_n 28 dX6_comesReply_28 rfl ?_
      refine V_iload_n 29 dX6_comesReply_29 rfl ?_
      refine V_iconstv 30 (5) dX6_comesReply_30 (by decide) ?_
      refine V_iv3 31 dX6_comesReply_31 kvX6_56 rfl (by first | exact hX.1.1.1 | exact hX.1.1.2.1 | exact hX.1.1.2.2.1 | exact hX.1.1.2.2.2.1 | exact hX.1.1.2.2.2.2.1 | exact hX.1.1.2.2.2.2.2.1 | exact hX.1.1.2.2.2.2.2.2.1 | exact hX.1.1.2.2.2.2.2.2.2.1 | exact hX.1.1.2.2.2.2.2.2.2.2.1 | exact hX.1.1.2.2.2.2.2.2.2.2.2.1 | exact hX.1.1.2.2.2.2.2.2.2.2.2.2) rfl rfl (c_X6_has hX.1 r i 5 (by unfold ctA; have := hX.2.2.2.2.2; omega) ?_)
      refine V_topi _ ((hX.2.2.2.2.1.2.2.2.2.1 i hi).2.2.2.2.2.1 hw2) ?_
      refine V_iconstv 34 (1) dX6_comesReply_34 (by decide) ?_
      refine V_iadd 35 dX6_comesReply_35 ?_
      refine V_iv4 36 dX6_comesReply_36 kvX6_59 rfl (by first | exact hX.1.1.1 | exact hX.1.1.2.1 | exact hX.1.1.2.2.1 | exact hX.1.1.2.2.2.1 | exact hX.1.1.2.2.2.2.1 | exact hX.1.1.2.2.2.2.2.1 | exact hX.1.1.2.2.2.2.2.2.1 | exact hX.1.1.2.2.2.2.2.2.2.1 | exact hX.1.1.2.2.2.2.2.2.2.2.1 | exact hX.1.1.2.2.2.2.2.2.2.2.2.1 | exact hX.1.1.2.2.2.2.2.2.2.2.2.2) rfl rfl (c_X6_set hX.1 r i 5 (by unfold ctA; have := hX.2.2.2.2.2; omega) (fun h hM => ?_))
      replace hX := hX.row (by unfold ctA; omega) (by have := hX.2.2.2.2.2; unfold ctA; omega) hM (hX.2.2.2.2.1.s5 hi hn hw2)
      refine V_aload_n 39 dX6_comesReply_39 rfl ?_
      refine V_iload_n 40 dX6_comesReply_40 rfl ?_
      refine V_iload_n 41 dX6_comesReply_41 rfl ?_
      refine V_iconstv 42 (5) dX6_comesReply_42 (by decide) ?_
      refine V_iv3 43 dX6_comesReply_43 kvX6_56 rfl (by first | exact hX.1.1.1 | exact hX.1.1.2.1 | exact hX.1.1.2.2.1 | exact hX.1.1.2.2.2.1 | exact hX.1.1.2.2.2.2.1 | exact hX.1.1.2.2.2.2.2.1 | exact hX.1.1.2.2.2.2.2.2.1 | exact hX.1.1.2.2.2.2.2.2.2.1 | exact hX.1.1.2.2.2.2.2.2.2.2.1 | exact hX.1.1.2.2.2.2.2.2.2.2.2.1 | exact hX.1.1.2.2.2.2.2.2.2.2.2.2) rfl rfl (c_X6_has hX.1 r i 5 (by unfold ctA; have := hX.2.2.2.2.2; omega) ?_)
      refine V_topi (eC E (8 * i + 5) + 1) (((hX.2.2.2.2.1.2.2.2.2.1 i hi).2.2.2.2.2.1 (by rw [eW_set]; exact hw2)).trans (by rw [show (5 : Int32) = nI 5 from rfl, eC_set E (by omega) (by omega), pk_us])) ?_
      refine V_iconstv 46 (2) dX6_comesReply_46 (by decide) ?_
      refine V_icmp_ne 47 72 dX6_comesReply_47 rfl (fun c_47 => ?_) (fun c_47 => ?_)
      · have e_47 : ¬ eC E (8 * i + 5) + 1 = 2 := c_47
        refine V_vret 72 dX6_comesReply_72 ?_
        unfold ryE at k
        rw [nmR_nI (by omega)] at k
        first
          | (rw [if_neg c_10] at k; exact k _ _ hX)
          | (rw [if_pos c_10, k0, if_neg (hr0 c_20)] at k; exact k _ _ hX)
          | (rw [if_pos c_10, k0, if_pos (hr1 c_20)] at k
             unfold ry1 at k
             rw [k5, k5, show eC (setE E (nI i) 5 (eC E (8 * i + 5) + 1)) (8 * i + 5) = eC E (8 * i + 5) + 1 from by rw [show (5 : Int32) = nI 5 from rfl, eC_set E (by omega) (by omega), pk_us]] at k
             first
               | (rw [if_pos e_47, k3] at k; exact k _ _ hX)
               | (rw [if_neg e_47] at k; exact k _ _ hX))
      · have e_47 : eC E (8 * i + 5) + 1 = 2 := c_47
        refine V_aload_n 50 dX6_comesReply_50 rfl ?_
        refine V_iload_n 51 dX6_comesReply_51 rfl ?_
        refine V_iload_n 52 dX6_comesReply_52 rfl ?_
        refine V_iconstv 53 (3) dX6_comesReply_53 (by decide) ?_
        refine V_aload_n 54 dX6_comesReply_54 rfl ?_
        refine V_iload_n 55 dX6_comesReply_55 rfl ?_
        refine V_iload_n 56 dX6_comesReply_56 rfl ?_
        refine V_iconstv 57 (3) dX6_comesReply_57 (by decide) ?_
        refine V_iv3 58 dX6_comesReply_58 kvX6_56 rfl (by first | exact hX.1.1.1 | exact hX.1.1.2.1 | exact hX.1.1.2.2.1 | exact hX.1.1.2.2.2.1 | exact hX.1.1.2.2.2.2.1 | exact hX.1.1.2.2.2.2.2.1 | exact hX.1.1.2.2.2.2.2.2.1 | exact hX.1.1.2.2.2.2.2.2.2.1 | exact hX.1.1.2.2.2.2.2.2.2.2.1 | exact hX.1.1.2.2.2.2.2.2.2.2.2.1 | exact hX.1.1.2.2.2.2.2.2.2.2.2.2) rfl rfl (c_X6_has hX.1 r i 3 (by unfold ctA; have := hX.2.2.2.2.2; omega) ?_)
        refine V_topi _ ((hX.2.2.2.2.1.2.2.2.2.1 i hi).2.2.2.1) ?_
        refine V_iconstv 61 (1) dX6_comesReply_61 (by decide) ?_
        refine V_iadd 62 dX6_comesReply_62 ?_
        refine V_iv4 63 dX6_comesReply_63 kvX6_59 rfl (by first | exact hX.1.1.1 | exact hX.1.1.2.1 | exact hX.1.1.2.2.1 | exact hX.1.1.2.2.2.1 | exact hX.1.1.2.2.2.2.1 | exact hX.1.1.2.2.2.2.2.1 | exact hX.1.1.2.2.2.2.2.2.1 | exact hX.1.1.2.2.2.2.2.2.2.1 | exact hX.1.1.2.2.2.2.2.2.2.2.1 | exact hX.1.1.2.2.2.2.2.2.2.2.2.1 | exact hX.1.1.2.2.2.2.2.2.2.2.2.2) rfl rfl (c_X6_set hX.1 r i 3 (by unfold ctA; have := hX.2.2.2.2.2; omega) (fun h hM => ?_))
        replace hX := hX.row (by unfold ctA; omega) (by have := hX.2.2.2.2.2; unfold ctA; omega) hM (hX.2.2.2.2.1.st hi hn 3 3 (by omega))
        refine V_aload_n 66 dX6_comesReply_66 rfl ?_
        refine V_iload_n 67 dX6_comesReply_67 rfl ?_
        refine V_iload_n 68 dX6_comesReply_68 rfl ?_
        refine V_iv2 69 dX6_comesReply_69 kvX6_75 rfl (by first | exact hX.1.1.1 | exact hX.1.1.2.1 | exact hX.1.1.2.2.1 | exact hX.1.1.2.2.2.1 | exact hX.1.1.2.2.2.2.1 | exact hX.1.1.2.2.2.2.2.1 | exact hX.1.1.2.2.2.2.2.2.1 | exact hX.1.1.2.2.2.2.2.2.2.1 | exact hX.1.1.2.2.2.2.2.2.2.2.1 | exact hX.1.1.2.2.2.2.2.2.2.2.2.1 | exact hX.1.1.2.2.2.2.2.2.2.2.2.2) rfl rfl (c_X6_probes hX i hi (by rw [eW_set, eW_set]; exact hw2) (by rw [eN_set, eN_set]; exact h2 c_10 (hr1 c_20) e_47) (fun h M1 hX hI => ?_))
        refine V_vret 72 dX6_comesReply_72 ?_
        unfold ryE at k
        rw [nmR_nI (by omega)] at k
        first
          | (rw [if_neg c_10] at k; exact k _ _ hX)
          | (rw [if_pos c_10, k0, if_neg (hr0 c_20)] at k; exact k _ _ hX)
          | (rw [if_pos c_10, k0, if_pos (hr1 c_20)] at k
             unfold ry1 at k
             rw [k5, k5, show eC (setE E (nI i) 5 (eC E (8 * i + 5) + 1)) (8 * i + 5) = eC E (8 * i + 5) + 1 from by rw [show (5 : Int32) = nI 5 from rfl, eC_set E (by omega) (by omega), pk_us]] at k
             first
               | (rw [if_pos e_47, k3] at k; exact k _ _ hX)
               | (rw [if_neg e_47] at k; exact k _ _ hX))
  · refine V_aload_n 13 dX6_comesReply_13 rfl ?_
    refine V_iload_n 14 dX6_comesReply_14 rfl ?_
    refine V_iv1 15 dX6_comesReply_15 kvX6_100 rfl (by first | exact hX.1.1.1 | exact hX.1.1.2.1 | exact hX.1.1.2.2.1 | exact hX.1.1.2.2.2.1 | exact hX.1.1.2.2.2.2.1 | exact hX.1.1.2.2.2.2.2.1 | exact hX.1.1.2.2.2.2.2.2.1 | exact hX.1.1.2.2.2.2.2.2.2.1 | exact hX.1.1.2.2.2.2.2.2.2.2.1 | exact hX.1.1.2.2.2.2.2.2.2.2.2.1 | exact hX.1.1.2.2.2.2.2.2.2.2.2.2) rfl rfl (c_X6_goesOn hX (hH) (hc) 3 (by decide) (hk5) hln (fun h M1 hX hI => ?_))
    refine V_vret 18 dX6_comesReply_18 ?_
    unfold ryE at k
    rw [nmR_nI (by omega)] at k
    first
      | (rw [if_neg c_10] at k; exact k _ _ hX)
      | (rw [if_pos c_10, k0, if_neg (hr0 c_20)] at k; exact k _ _ hX)
      | (rw [if_pos c_10, k0, if_pos (hr1 c_20)] at k
         unfold ry1 at k
         rw [k5, k5, show eC (setE E (nI i) 5 (eC E (8 * i + 5) + 1)) (8 * i + 5) = eC E (8 * i + 5) + 1 from by rw [show (5 : Int32) = nI 5 from rfl, eC_set E (by omega) (by omega), pk_us]] at k
         first
           | (rw [if_pos e_47, k3] at k; exact k _ _ hX)
           | (rw [if_neg e_47] at k; exact k _ _ hX))
end M27
