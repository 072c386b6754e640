section M29
variable {l : Launch} {G : zGT} {h h0 : hpT} {sz : Nat} {Post : Option Value → hpT → Nat → Prop} {m r : Nat} {M M0 : MT} {Q : RG} {E : ET}
def al0 (E : ET) : ET := eH' E (upd (eH E) 5 0)
theorem HD.st2 {M : MT} {E : ET} (h : HD M E) : HD (mI M 8 (M.1 8 + 1)) (st2 E) := by
  obtain ⟨a, b, c, d, e⟩ := h
  refine ⟨a, b, c, ?_, e⟩
  show M.1 8 + 1 = eH E 4 + 1
  rw [d]
theorem HD.al {M : MT} {E : ET} (h : HD M E) {v : Int32} (hv : v = M.1 9) : HD (mI M 9 v) E := by
  obtain ⟨a, b, c, d, e⟩ := h
  exact ⟨a, b, c, d, by show v = _; rw [hv]; exact e⟩
theorem HD.al0 {M : MT} {E : ET} (h : HD M E) : HD (mI M 9 0) (al0 E) := by
  obtain ⟨a, b, c, d, e⟩ := h
  exact ⟨a, b, c, d, rfl⟩
set_option maxHeartbeats 1000000 in
set_option maxRecDepth 100000 in
theorem c_X6_comesByDraws (hX : WX G h0 h m M0 M r E Q) (i : Nat) (hi : i < Q.1) (rn : Int32) (hrn : (rn = 1 ∧ eC E (8 * i) = 1) ∨ (rn = 0 ∧ ¬ eC E (8 * i) = 1)) (hH : HD M E) (hc : eN E < 12) {x : Int32} (hln : M.1 10 = 2 * nI i + (x &&& 1)) (hk5 : eH E 1 = nI 6) (hw : ¬ eW E = 0) (hbd : eC E (8 * i) = 1 → ∃ p q a b a0 b0, p < 2 ^ 30 ∧ q < 2 ^ 30 ∧ a < 2 ^ 30 ∧ b < 2 ^ 30 ∧ eC E (8 * i + 3) = nI p ∧ eH E 3 = nI q ∧ eC E (8 * i + 2) = nI a ∧ eH E 2 = nI b ∧ a0 < 2 ^ 31 ∧ eC E (8 * i + 7) = nI a0 ∧ 1 ≤ b0 ∧ b0 ≤ 9 ∧ eG E = nI b0) (k : ∀ h M1, WX G h0 h m M0 M1 r (dl3 (toE Q E (nI i)) x (nI i)) Q → Post none h sz) : Cn l G yX6_comesByDraws cX6_comesByDraws 8 none 4 0 0 [.ref m, .int (nI r), .int (nI i), .int rn] h sz Post := by
  refine Cn.of RX6 false (by decide) rfl (fun q => by cases q) (Nat.le_of_ble_eq_true rfl) ?_
  have hn := hX.2.2.2.2.2.2
  have hr := hX.2.2.2.2.2.1
  have k0 : ∀ (E : ET), celE E (nI i) 0 = eC E (8 * i + 0) := fun E => celE_nI E (k := 0) (by omega) (by omega)
  have k1 : ∀ (E : ET), celE E (nI i) 1 = eC E (8 * i + 1) := fun E => celE_nI E (k := 1) (by omega) (by omega)
  have k2 : ∀ (E : ET), celE E (nI i) 2 = eC E (8 * i + 2) := fun E => celE_nI E (k := 2) (by omega) (by omega)
  have k3 : ∀ (E : ET), celE E (nI i) 3 = eC E (8 * i + 3) := fun E => celE_nI E (k := 3) (by omega) (by omega)
  have k4 : ∀ (E : ET), celE E (nI i) 4 = eC E (8 * i + 4) := fun E => celE_nI E (k := 4) (by omega) (by omega)
  have k5 : ∀ (E : ET), celE E (nI i) 5 = eC E (8 * i + 5) := fun E => celE_nI E (k := 5) (by omega) (by omega)
  have k6 : ∀ (E : ET), celE E (nI i) 6 = eC E (8 * i + 6) := fun E => celE_nI E (k := 6) (by omega) (by omega)
  have k7 : ∀ (E : ET), celE E (nI i) 7 = eC E (8 * i + 7) := fun E => celE_nI E (k := 7) (by omega) (by omega)
  have hr1 : ¬ rn = 0 → eC E (8 * i + 0) = 1 := fun q => by rcases hrn with ⟨a, b⟩ | ⟨a, b⟩; exact b; exact absurd a q
  have hr0 : rn = 0 → ¬ eC E (8 * i + 0) = 1 := fun q => by rcases hrn with ⟨a, b⟩ | ⟨a, b⟩; rw [a] at q; exact absurd q (by decide); exact b
  by_cases c_r : rn = 0
  · refine V_aload_n 0 dX6_comesByDraws_0 rfl ?_
    refine V_iload_n 1 dX6_comesByDraws_1 rfl ?_
    refine V_iload_n 2 dX6_comesByDraws_2 rfl ?_
    refine V_iconstv 3 (3) dX6_comesByDraws_3 (by decide) ?_
    refine V_iv3 4 dX6_comesByDraws_4 kvX6_56 rfl (by first | exact hX.1.1.1 | exact hX.1.1.2.1 | exact hX.1.1.2.2.1 | exact hX.1.1.2.2.2.1 | exact hX.1.1.2.2.2.2.1 | exact hX.1.1.2.2.2.2.2.1 | exact hX.1.1.2.2.2.2.2.2.1 | exact hX.1.1.2.2.2.2.2.2.2.1 | exact hX.1.1.2.2.2.2.2.2.2.2.1 | exact hX.1.1.2.2.2.2.2.2.2.2.2.1 | exact hX.1.1.2.2.2.2.2.2.2.2.2.2) rfl rfl (c_X6_has hX.1 r i 3 (by unfold ctA; have := hX.2.2.2.2.2; omega) ?_)
    refine V_topi _ ((hX.2.2.2.2.1.2.2.2.2.1 i hi).2.2.2.1) ?_
    refine V_istore 7 dX6_comesByDraws_7 rfl rfl ?_
    refine V_aload_n 9 dX6_comesByDraws_9 rfl ?_
    refine V_iload_n 10 dX6_comesByDraws_10 rfl ?_
    refine V_iload_n 11 dX6_comesByDraws_11 rfl ?_
    refine V_iconstv 12 (2) dX6_comesByDraws_12 (by decide) ?_
    refine V_iv3 13 dX6_comesByDraws_13 kvX6_56 rfl (by first | exact hX.1.1.1 | exact hX.1.1.2.1 | exact hX.1.1.2.2.1 | exact hX.1.1.2.2.2.1 | exact hX.1.1.2.2.2.2.1 | exact hX.1.1.2.2.2.2.2.1 | exact hX.1.1.2.2.2.2.2.2.1 | exact hX.1.1.2.2.2.2.2.2.2.1 | exact hX.1.1.2.2.2.2.2.2.2.2.1 | exact hX.1.1.2.2.2.2.2.2.2.2.2.1 | exact hX.1.1.2.2.2.2.2.2.2.2.2.2) rfl rfl (c_X6_has hX.1 r i 2 (by unfold ctA; have := hX.2.2.2.2.2; omega) ?_)
    refine V_topi _ ((hX.2.2.2.2.1.2.2.2.2.1 i hi).2.2.1) ?_
    refine V_istore 16 dX6_comesByDraws_16 rfl rfl ?_
    refine V_aload_n 18 dX6_comesByDraws_18 rfl ?_
    refine V_get 19 dX6_comesByDraws_19 fdX6_94 (by first | exact hX.1.1.1 | exact hX.1.1.2.1 | exact hX.1.1.2.2.1 | exact hX.1.1.2.2.2.1 | exact hX.1.1.2.2.2.2.1 | exact hX.1.1.2.2.2.2.2.1 | exact hX.1.1.2.2.2.2.2.2.1 | exact hX.1.1.2.2.2.2.2.2.2.1 | exact hX.1.1.2.2.2.2.2.2.2.2.1 | exact hX.1.1.2.2.2.2.2.2.2.2.2.1 | exact hX.1.1.2.2.2.2.2.2.2.2.2.2) rfl ?_
    refine V_topi (eH E 4) hH.2.2.2.1 ?_
    refine V_aload_n 22 dX6_comesByDraws_22 rfl ?_
    refine V_get 23 dX6_comesByDraws_23 fdX6_41 (by first | exact hX.1.1.1 | exact hX.1.1.2.1 | exact hX.1.1.2.2.1 | exact hX.1.1.2.2.2.1 | exact hX.1.1.2.2.2.2.1 | exact hX.1.1.2.2.2.2.2.1 | exact hX.1.1.2.2.2.2.2.2.1 | exact hX.1.1.2.2.2.2.2.2.2.1 | exact hX.1.1.2.2.2.2.2.2.2.2.1 | exact hX.1.1.2.2.2.2.2.2.2.2.2.1 | exact hX.1.1.2.2.2.2.2.2.2.2.2.2) rfl ?_
    refine V_topi (nI Q.1) hX.2.2.1 ?_
    refine V_icmp_ne 26 76 dX6_comesByDraws_26 rfl (fun c_26 => ?_) (fun c_26 => ?_)
    · by_cases s_gt : eC E (8 * i + 3) < eH E 3
      · have s_ne : ¬ eH E 3 = eC E (8 * i + 3) := fun q => by rw [q] at s_gt; exact absurd (Int32.lt_iff_toInt_lt.mp s_gt) (by omega)
        refine V_aload_n 76 dX6_comesByDraws_76 rfl ?_
        refine V_get 77 dX6_comesByDraws_77 fdX6_91 (by first | exact hX.1.1.1 | exact hX.1.1.2.1 | exact hX.1.1.2.2.1 | exact hX.1.1.2.2.2.1 | exact hX.1.1.2.2.2.2.1 | exact hX.1.1.2.2.2.2.2.1 | exact hX.1.1.2.2.2.2.2.2.1 | exact hX.1.1.2.2.2.2.2.2.2.1 | exact hX.1.1.2.2.2.2.2.2.2.2.1 | exact hX.1.1.2.2.2.2.2.2.2.2.2.1 | exact hX.1.1.2.2.2.2.2.2.2.2.2.2) rfl ?_
        refine V_topi (eH E 3) hH.2.2.1 ?_
        refine V_iload 80 dX6_comesByDraws_80 rfl ?_
        refine V_icmp_gt 82 103 dX6_comesByDraws_82 rfl (fun _ => ?_) (fun q => absurd s_gt q)
        refine V_iconstv 103 (1) dX6_comesByDraws_103 (by decide) ?_
        refine V_goto 104 108 dX6_comesByDraws_104 rfl ?_
        refine V_istore 108 dX6_comesByDraws_108 rfl rfl ?_
        refine V_aload_n 110 dX6_comesByDraws_110 rfl ?_
        refine V_get 111 dX6_comesByDraws_111 fdX6_91 (by first | exact hX.1.1.1 | exact hX.1.1.2.1 | exact hX.1.1.2.2.1 | exact hX.1.1.2.2.2.1 | exact hX.1.1.2.2.2.2.1 | exact hX.1.1.2.2.2.2.2.1 | exact hX.1.1.2.2.2.2.2.2.1 | exact hX.1.1.2.2.2.2.2.2.2.1 | exact hX.1.1.2.2.2.2.2.2.2.2.1 | exact hX.1.1.2.2.2.2.2.2.2.2.2.1 | exact hX.1.1.2.2.2.2.2.2.2.2.2.2) rfl ?_
        refine V_topi (eH E 3) hH.2.2.1 ?_
        refine V_iload 114 dX6_comesByDraws_114 rfl ?_
        refine V_icmp_ne 116 132 dX6_comesByDraws_116 rfl (fun _ => ?_) (fun q => absurd q s_ne)
        refine V_iconstv 132 (0) dX6_comesByDraws_132 (by decide) ?_
        refine V_istore 133 dX6_comesByDraws_133 rfl rfl ?_
        refine V_iload_n 135 dX6_comesByDraws_135 rfl ?_
        refine V_if_eq 136 150 dX6_comesByDraws_136 rfl (fun _ => ?_) (fun q => absurd c_r q)
        refine V_iload_n 150 dX6_comesByDraws_150 rfl ?_
        refine V_if_eq 151 167 dX6_comesByDraws_151 rfl (fun _ => ?_) (fun q => absurd c_r q)
        refine V_aload_n 167 dX6_comesByDraws_167 rfl ?_
        refine V_iload_n 168 dX6_comesByDraws_168 rfl ?_
        refine V_if_eq 169 181 dX6_comesByDraws_169 rfl (fun _ => ?_) (fun q => absurd c_r q)
        refine V_aload_n 181 dX6_comesByDraws_181 rfl ?_
        refine V_get 182 dX6_comesByDraws_182 fdX6_97 (by first | exact hX.1.1.1 | exact hX.1.1.2.1 | exact hX.1.1.2.2.1 | exact hX.1.1.2.2.2.1 | exact hX.1.1.2.2.2.2.1 | exact hX.1.1.2.2.2.2.2.1 | exact hX.1.1.2.2.2.2.2.2.1 | exact hX.1.1.2.2.2.2.2.2.2.1 | exact hX.1.1.2.2.2.2.2.2.2.2.1 | exact hX.1.1.2.2.2.2.2.2.2.2.2.1 | exact hX.1.1.2.2.2.2.2.2.2.2.2.2) rfl ?_
        refine V_putM 185 dX6_comesByDraws_185 fpX6_97 hX.1 rfl rfl (fun h hM => ?_)
        replace hX := (hX.scr (by omega) (by omega) hM)
        have hH2 := HD.al hH rfl
        refine V_aload_n 188 dX6_comesByDraws_188 rfl ?_
        refine V_dupr 189 dX6_comesByDraws_189 ?_
        refine V_get 190 dX6_comesByDraws_190 fdX6_94 (by first | exact hX.1.1.1 | exact hX.1.1.2.1 | exact hX.1.1.2.2.1 | exact hX.1.1.2.2.2.1 | exact hX.1.1.2.2.2.2.1 | exact hX.1.1.2.2.2.2.2.1 | exact hX.1.1.2.2.2.2.2.2.1 | exact hX.1.1.2.2.2.2.2.2.2.1 | exact hX.1.1.2.2.2.2.2.2.2.2.1 | exact hX.1.1.2.2.2.2.2.2.2.2.2.1 | exact hX.1.1.2.2.2.2.2.2.2.2.2.2) rfl ?_
        refine V_iconstv 193 (1) dX6_comesByDraws_193 (by decide) ?_
        refine V_iadd 194 dX6_comesByDraws_194 ?_
        refine V_putM 195 dX6_comesByDraws_195 fpX6_94 hX.1 rfl rfl (fun h hM => ?_)
        replace hX := (hX.scr (by omega) (by omega) hM).hand (upd (eH E) 4 (eH E 4 + 1))
        have hH3 := hH2.st2
        refine V_aload_n 198 dX6_comesByDraws_198 rfl ?_
        refine V_iload_n 199 dX6_comesByDraws_199 rfl ?_
        refine V_iv1 200 dX6_comesByDraws_200 kvX6_100 rfl (by first | exact hX.1.1.1 | exact hX.1.1.2.1 | exact hX.1.1.2.2.1 | exact hX.1.1.2.2.2.1 | exact hX.1.1.2.2.2.2.1 | exact hX.1.1.2.2.2.2.2.1 | exact hX.1.1.2.2.2.2.2.2.1 | exact hX.1.1.2.2.2.2.2.2.2.1 | exact hX.1.1.2.2.2.2.2.2.2.2.1 | exact hX.1.1.2.2.2.2.2.2.2.2.2.1 | exact hX.1.1.2.2.2.2.2.2.2.2.2.2) rfl rfl (c_X6_goesOn (E := st2 E) hX hH3 (by show eN E < 12; exact hc) 6 (by decide) (by show eH E 1 = nI 6; exact hk5) hln (fun h M1 hX hI => ?_))
        refine V_vret 203 dX6_comesByDraws_203 ?_
        unfold toE at k
        rw [k0, if_neg (hr0 c_r), if_neg c_26, dl3_ot] at k
        exact k _ _ hX
      have s_ngt : ¬ eC E (8 * i + 3) < eH E 3 := s_gt
      by_cases s_eq : eH E 3 = eC E (8 * i + 3)
      · by_cases s_n : eH E 2 = eC E (8 * i + 2)
        · have s_m : eH E 2 ≤ eC E (8 * i + 2) := by rw [s_n]; exact Int32.le_refl _
          refine V_aload_n 76 dX6_comesByDraws_76 rfl ?_
          refine V_get 77 dX6_comesByDraws_77 fdX6_91 (by first | exact hX.1.1.1 | exact hX.1.1.2.1 | exact hX.1.1.2.2.1 | exact hX.1.1.2.2.2.1 | exact hX.1.1.2.2.2.2.1 | exact hX.1.1.2.2.2.2.2.1 | exact hX.1.1.2.2.2.2.2.2.1 | exact hX.1.1.2.2.2.2.2.2.2.1 | exact hX.1.1.2.2.2.2.2.2.2.2.1 | exact hX.1.1.2.2.2.2.2.2.2.2.2.1 | exact hX.1.1.2.2.2.2.2.2.2.2.2.2) rfl ?_
          refine V_topi (eH E 3) hH.2.2.1 ?_
          refine V_iload 80 dX6_comesByDraws_80 rfl ?_
          refine V_icmp_gt 82 103 dX6_comesByDraws_82 rfl (fun q => absurd q s_ngt) (fun _ => ?_)
          refine V_aload_n 85 dX6_comesByDraws_85 rfl ?_
          refine V_get 86 dX6_comesByDraws_86 fdX6_91 (by first | exact hX.1.1.1 | exact hX.1.1.2.1 | exact hX.1.1.2.2.1 | exact hX.1.1.2.2.2.1 | exact hX.1.1.2.2.2.2.1 | exact hX.1.1.2.2.2.2.2.1 | exact hX.1.1.2.2.2.2.2.2.1 | exact hX.1.1.2.2.2.2.2.2.2.1 | exact hX.1.1.2.2.2.2.2.2.2.2.1 | exact hX.1.1.2.2.2.2.2.2.2.2.2.1 | exact hX.1.1.2.2.2.2.2.2.2.2.2.2) rfl ?_
          refine V_topi (eH E 3) hH.2.2.1 ?_
          refine V_iload 89 dX6_comesByDraws_89 rfl ?_
          refine V_icmp_ne 91 107 dX6_comesByDraws_91 rfl (fun q => absurd s_eq q) (fun _ => ?_)
          refine V_aload_n 94 dX6_comesByDraws_94 rfl ?_
          refine V_get 95 dX6_comesByDraws_95 fdX6_88 (by first | exact hX.1.1.1 | exact hX.1.1.2.1 | exact hX.1.1.2.2.1 | exact hX.1.1.2.2.2.1 | exact hX.1.1.2.2.2.2.1 | exact hX.1.1.2.2.2.2.2.1 | exact hX.1.1.2.2.2.2.2.2.1 | exact hX.1.1.2.2.2.2.2.2.2.1 | exact hX.1.1.2.2.2.2.2.2.2.2.1 | exact hX.1.1.2.2.2.2.2.2.2.2.2.1 | exact hX.1.1.2.2.2.2.2.2.2.2.2.2) rfl ?_
          refine V_topi (eH E 2) hH.2.1 ?_
          refine V_iload 98 dX6_comesByDraws_98 rfl ?_
          refine V_icmp_le 100 107 dX6_comesByDraws_100 rfl (fun _ => ?_) (fun q => absurd s_m q)
          refine V_iconstv 107 (0) dX6_comesByDraws_107 (by decide) ?_
          refine V_istore 108 dX6_comesByDraws_108 rfl rfl ?_
          refine V_aload_n 110 dX6_comesByDraws_110 rfl ?_
          refine V_get 111 dX6_comesByDraws_111 fdX6_91 (by first | exact hX.1.1.1 | exact hX.1.1.2.1 | exact hX.1.1.2.2.1 | exact hX.1.1.2.2.2.1 | exact hX.1.1.2.2.2.2.1 | exact hX.1.1.2.2.2.2.2.1 | exact hX.1.1.2.2.2.2.2.2.1 | exact hX.1.1.2.2.2.2.2.2.2.1 | exact hX.1.1.2.2.2.2.2.2.2.2.1 | exact hX.1.1.2.2.2.2.2.2.2.2.2.1 | exact hX.1.1.2.2.2.2.2.2.2.2.2.2) rfl ?_
          refine V_topi (eH E 3) hH.2.2.1 ?_
          refine V_iload 114 dX6_comesByDraws_114 rfl ?_
          refine V_icmp_ne 116 132 dX6_comesByDraws_116 rfl (fun q => absurd s_eq q) (fun _ => ?_)
          refine V_aload_n 119 dX6_comesByDraws_119 rfl ?_
          refine V_get 120 dX6_comesByDraws_120 fdX6_88 (by first | exact hX.1.1.1 | exact hX.1.1.2.1 | exact hX.1.1.2.2.1 | exact hX.1.1.2.2.2.1 | exact hX.1.1.2.2.2.2.1 | exact hX.1.1.2.2.2.2.2.1 | exact hX.1.1.2.2.2.2.2.2.1 | exact hX.1.1.2.2.2.2.2.2.2.1 | exact hX.1.1.2.2.2.2.2.2.2.2.1 | exact hX.1.1.2.2.2.2.2.2.2.2.2.1 | exact hX.1.1.2.2.2.2.2.2.2.2.2.2) rfl ?_
          refine V_topi (eH E 2) hH.2.1 ?_
          refine V_iload 123 dX6_comesByDraws_123 rfl ?_
          refine V_icmp_ne 125 132 dX6_comesByDraws_125 rfl (fun q => absurd s_n q) (fun _ => ?_)
          refine V_iconstv 128 (1) dX6_comesByDraws_128 (by decide) ?_
          refine V_goto 129 133 dX6_comesByDraws_129 rfl ?_
          refine V_istore 133 dX6_comesByDraws_133 rfl rfl ?_
          refine V_iload_n 135 dX6_comesByDraws_135 rfl ?_
          refine V_if_eq 136 150 dX6_comesByDraws_136 rfl (fun _ => ?_) (fun q => absurd c_r q)
          refine V_iload_n 150 dX6_comesByDraws_150 rfl ?_
          refine V_if_eq 151 167 dX6_comesByDraws_151 rfl (fun _ => ?_) (fun q => absurd c_r q)
          refine V_aload_n 167 dX6_comesByDraws_167 rfl ?_
          refine V_iload_n 168 dX6_comesByDraws_168 rfl ?_
          refine V_if_eq 169 181 dX6_comesByDraws_169 rfl (fun _ => ?_) (fun q => absurd c_r q)
          refine V_aload_n 181 dX6_comesByDraws_181 rfl ?_
          refine V_get 182 dX6_comesByDraws_182 fdX6_97 (by first | exact hX.1.1.1 | exact hX.1.1.2.1 | exact hX.1.1.2.2.1 | exact hX.1.1.2.2.2.1 | exact hX.1.1.2.2.2.2.1 | exact hX.1.1.2.2.2.2.2.1 | exact hX.1.1.2.2.2.2.2.2.1 | exact hX.1.1.2.2.2.2.2.2.2.1 | exact hX.1.1.2.2.2.2.2.2.2.2.1 | exact hX.1.1.2.2.2.2.2.2.2.2.2.1 | exact hX.1.1.2.2.2.2.2.2.2.2.2.2) rfl ?_
          refine V_putM 185 dX6_comesByDraws_185 fpX6_97 hX.1 rfl rfl (fun h hM => ?_)
          replace hX := (hX.scr (by omega) (by omega) hM)
          have hH2 := HD.al hH rfl
          refine V_aload_n 188 dX6_comesByDraws_188 rfl ?_
          refine V_dupr 189 dX6_comesByDraws_189 ?_
          refine V_get 190 dX6_comesByDraws_190 fdX6_94 (by first | exact hX.1.1.1 | exact hX.1.1.2.1 | exact hX.1.1.2.2.1 | exact hX.1.1.2.2.2.1 | exact hX.1.1.2.2.2.2.1 | exact hX.1.1.2.2.2.2.2.1 | exact hX.1.1.2.2.2.2.2.2.1 | exact hX.1.1.2.2.2.2.2.2.2.1 | exact hX.1.1.2.2.2.2.2.2.2.2.1 | exact hX.1.1.2.2.2.2.2.2.2.2.2.1 | exact hX.1.1.2.2.2.2.2.2.2.2.2.2) rfl ?_
          refine V_iconstv 193 (1) dX6_comesByDraws_193 (by decide) ?_
          refine V_iadd 194 dX6_comesByDraws_194 ?_
          refine V_putM 195 dX6_comesByDraws_195 fpX6_94 hX.1 rfl rfl (fun h hM => ?_)
          replace hX := (hX.scr (by omega) (by omega) hM).hand (upd (eH E) 4 (eH E 4 + 1))
          have hH3 := hH2.st2
          refine V_aload_n 198 dX6_comesByDraws_198 rfl ?_
          refine V_iload_n 199 dX6_comesByDraws_199 rfl ?_
          refine V_iv1 200 dX6_comesByDraws_200 kvX6_100 rfl (by first | exact hX.1.1.1 | exact hX.1.1.2.1 | exact hX.1.1.2.2.1 | exact hX.1.1.2.2.2.1 | exact hX.1.1.2.2.2.2.1 | exact hX.1.1.2.2.2.2.2.1 | exact hX.1.1.2.2.2.2.2.2.1 | exact hX.1.1.2.2.2.2.2.2.2.1 | exact hX.1.1.2.2.2.2.2.2.2.2.1 | exact hX.1.1.2.2.2.2.2.2.2.2.2.1 | exact hX.1.1.2.2.2.2.2.2.2.2.2.2) rfl rfl (c_X6_goesOn (E := st2 E) hX hH3 (by show eN E < 12; exact hc) 6 (by decide) (by show eH E 1 = nI 6; exact hk5) hln (fun h M1 hX hI => ?_))
          refine V_vret 203 dX6_comesByDraws_203 ?_
          unfold toE at k
          rw [k0, if_neg (hr0 c_r), if_neg c_26, dl3_ot] at k
          exact k _ _ hX
        by_cases s_m : eH E 2 ≤ eC E (8 * i + 2)
        · skip
          refine V_aload_n 76 dX6_comesByDraws_76 rfl ?_
          refine V_get 77 dX6_comesByDraws_77 fdX6_91 (by first | exact hX.1.1.1 | exact hX.1.1.2.1 | exact hX.1.1.2.2.1 | exact hX.1.1.2.2.2.1 | exact hX.1.1.2.2.2.2.1 | exact hX.1.1.2.2.2.2.2.1 | exact hX.1.1.2.2.2.2.2.2.1 | exact hX.1.1.2.2.2.2.2.2.2.1 | exact hX.1.1.2.2.2.2.2.2.2.2.1 | exact hX.1.1.2.2.2.2.2.2.2.2.2.1 | exact hX.1.1.2.2.2.2.2.2.2.2.2.2) rfl ?_
          refine V_topi (eH E 3) hH.2.2.1 ?_
          refine V_iload 80 dX6_comesByDraws_80 rfl ?_
          refine V_icmp_gt 82 103 dX6_comesByDraws_82 rfl (fun q => absurd q s_ngt) (fun _ => ?_)
          refine V_aload_n 85 dX6_comesByDraws_85 rfl ?_
          refine V_get 86 dX6_comesByDraws_86 fdX6_91 (by first | exact hX.1.1.1 | exact hX.1.1.2.1 | exact hX.1.1.2.2.1 | exact hX.1.1.2.2.2.1 | exact hX.1.1.2.2.2.2.1 | exact hX.1.1.2.2.2.2.2.1 | exact hX.1.1.2.2.2.2.2.2.1 | exact hX.1.1.2.2.2.2.2.2.2.1 | exact hX.1.1.2.2.2.2.2.2.2.2.1 | exact hX.1.1.2.2.2.2.2.2.2.2.2.1 | exact hX.1.1.2.2.2.2.2.2.2.2.2.2) rfl ?_
          refine V_topi (eH E 3) hH.2.2.1 ?_
          refine V_iload 89 dX6_comesByDraws_89 rfl ?_
          refine V_icmp_ne 91 107 dX6_comesByDraws_91 rfl (fun q => absurd s_eq q) (fun _ => ?_)
          refine V_aload_n 94 dX6_comesByDraws_94 rfl ?_
          refine V_get 95 dX6_comesByDraws_95 fdX6_88 (by first | exact hX.1.1.1 | exact hX.1.1.2.1 | exact hX.1.1.2.2.1 | exact hX.1.1.2.2.2.1 | exact hX.1.1.2.2.2.2.1 | exact hX.1.1.2.2.2.2.2.1 | exact hX.1.1.2.2.2.2.2.2.1 | exact hX.1.1.2.2.2.2.2.2.2.1 | exact hX.1.1.2.2.2.2.2.2.2.2.1 | exact hX.1.1.2.2.2.2.2.2.2.2.2.1 | exact hX.1.1.2.2.2.2.2.2.2.2.2.2) rfl ?_
          refine V_topi (eH E 2) hH.2.1 ?_
          refine V_iload 98 dX6_comesByDraws_98 rfl ?_
          refine V_icmp_le 100 107 dX6_comesByDraws_100 rfl (fun _ => ?_) (fun q => absurd s_m q)
          refine V_iconstv 107 (0) dX6_comesByDraws_107 (by decide) ?_
          refine V_istore 108 dX6_comesByDraws_108 rfl rfl ?_
          refine V_aload_n 110 dX6_comesByDraws_110 rfl ?_
          refine V_get 111 dX6_comesByDraws_111 fdX6_91 (by first | exact hX.1.1.1 | exact hX.1.1.2.1 | exact hX.1.1.2.2.1 | exact hX.1.1.2.2.2.1 | exact hX.1.1.2.2.2.2.1 | exact hX.1.1.2.2.2.2.2.1 | exact hX.1.1.2.2.2.2.2.2.1 | exact hX.1.1.2.2.2.2.2.2.2.1 | exact hX.1.1.2.2.2.2.2.2.2.2.1 | exact hX.1.1.2.2.2.2.2.2.2.2.2.1 | exact hX.1.1.2.2.2.2.2.2.2.2.2.2) rfl ?_
          refine V_topi (eH E 3) hH.2.2.1 ?_
          refine V_iload 114 dX6_comesByDraws_114 rfl ?_
          refine V_icmp_ne 116 132 dX6_comesByDraws_116 rfl (fun q => absurd s_eq q) (fun _ => ?_)
          refine V_aload_n 119 dX6_comesByDraws_119 rfl ?_
          refine V_get 120 dX6_comesByDraws_120 fdX6_88 (by first | exact hX.1.1.1 | exact hX.1.1.2.1 | exact hX.1.1.2.2.1 | exact hX.1.1.2.2.2.1 | exact hX.1.1.2.2.2.2.1 | exact hX.1.1.2.2.2.2.2.1 | exact hX.1.1.2.2.2.2.2.2.1 | exact hX.1.1.2.2.2.2.2.2.2.1 | exact hX.1.1.2.2.2.2.2.2.2.2.1 | exact hX.1.1.2.2.2.2.2.2.2.2.2.1 | exact hX.1.1.2.2.2.2.2.2.2.2.2.2) rfl ?_
          refine V_topi (eH E 2) hH.2.1 ?_
          refine V_iload 123 dX6_comesByDraws_123 rfl ?_
          refine V_icmp_ne 125 132 dX6_comesByDraws_125 rfl (fun _ => ?_) (fun q => absurd q s_n)
          refine V_iconstv 132 (0) dX6_comesByDraws_132 (by decide) ?_
          refine V_istore 133 dX6_comesByDraws_133 rfl rfl ?_
          refine V_iload_n 135 dX6_comesByDraws_135 rfl ?_
          refine V_if_eq 136 150 dX6_comesByDraws_136 rfl (fun _ => ?_) (fun q => absurd c_r q)
          refine V_iload_n 150 dX6_comesByDraws_150 rfl ?_
          refine V_if_eq 151 167 dX6_comesByDraws_151 rfl (fun _ => ?_) (fun q => absurd c_r q)
          refine V_aload_n 167 dX6_comesByDraws_167 rfl ?_
          refine V_iload_n 168 dX6_comesByDraws_168 rfl ?_
          refine V_if_eq 169 181 dX6_comesByDraws_169 rfl (fun _ => ?_) (fun q => absurd c_r q)
          refine V_aload_n 181 dX6_comesByDraws_181 rfl ?_
          refine V_get 182 dX6_comesByDraws_182 fdX6_97 (by first | exact hX.1.1.1 | exact hX.1.1.2.1 | exact hX.1.1.2.2.1 | exact hX.1.1.2.2.2.1 | exact hX.1.1.2.2.2.2.1 | exact hX.1.1.2.2.2.2.2.1 | exact hX.1.1.2.2.2.2.2.2.1 | exact hX.1.1.2.2.2.2.2.2.2.1 | exact hX.1.1.2.2.2.2.2.2.2.2.1 | exact hX.1.1.2.2.2.2.2.2.2.2.2.1 | exact hX.1.1.2.2.2.2.2.2.2.2.2.2) rfl ?_
          refine V_putM 185 dX6_comesByDraws_185 fpX6_97 hX.1 rfl rfl (fun h hM => ?_)
          replace hX := (hX.scr (by omega) (by omega) hM)
          have hH2 := HD.al hH rfl
          refine V_aload_n 188 dX6_comesByDraws_188 rfl ?_
          refine V_dupr 189 dX6_comesByDraws_189 ?_
          refine V_get 190 dX6_comesByDraws_190 fdX6_94 (by first | exact hX.1.1.1 | exact hX.1.1.2.1 | exact hX.1.1.2.2.1 | exact hX.1.1.2.2.2.1 | exact hX.1.1.2.2.2.2.1 | exact hX.1.1.2.2.2.2.2.1 | exact hX.1.1.2.2.2.2.2.2.1 | exact hX.1.1.2.2.2.2.2.2.2.1 | exact hX.1.1.2.2.2.2.2.2.2.2.1 | exact hX.1.1.2.2.2.2.2.2.2.2.2.1 | exact hX.1.1.2.2.2.2.2.2.2.2.2.2) rfl ?_
          refine V_iconstv 193 (1) dX6_comesByDraws_193 (by decide) ?_
          refine V_iadd 194 dX6_comesByDraws_194 ?_
          refine V_putM 195 dX6_comesByDraws_195 fpX6_94 hX.1 rfl rfl (fun h hM => ?_)
          replace hX := (hX.scr (by omega) (by omega) hM).hand (upd (eH E) 4 (eH E 4 + 1))
          have hH3 := hH2.st2
          refine V_aload_n 198 dX6_comesByDraws_198 rfl ?_
          refine V_iload_n 199 dX6_comesByDraws_199 rfl ?_
          refine V_iv1 200 dX6_comesByDraws_200 kvX6_100 rfl (by first | exact hX.1.1.1 | exact hX.1.1.2.1 | exact hX.1.1.2.2.1 | exact hX.1.1.2.2.2.1 | exact hX.1.1.2.2.2.2.1 | exact hX.1.1.2.2.2.2.2.1 | exact hX.1.1.2.2.2.2.2.2.1 | exact hX.1.1.2.2.2.2.2.2.2.1 | exact hX.1.1.2.2.2.2.2.2.2.2.1 | exact hX.1.1.2.2.2.2.2.2.2.2.2.1 | exact hX.1.1.2.2.2.2.2.2.2.2.2.2) rfl rfl (c_X6_goesOn (E := st2 E) hX hH3 (by show eN E < 12; exact hc) 6 (by decide) (by show eH E 1 = nI 6; exact hk5) hln (fun h M1 hX hI => ?_))
          refine V_vret 203 dX6_comesByDraws_203 ?_
          unfold toE at k
          rw [k0, if_neg (hr0 c_r), if_neg c_26, dl3_ot] at k
          exact k _ _ hX
        · skip
          refine V_aload_n 76 dX6_comesByDraws_76 rfl ?_
          refine V_get 77 dX6_comesByDraws_77 fdX6_91 (by first | exact hX.1.1.1 | exact hX.1.1.2.1 | exact hX.1.1.2.2.1 | exact hX.1.1.2.2.2.1 | exact hX.1.1.2.2.2.2.1 | exact hX.1.1.2.2.2.2.2.1 | exact hX.1.1.2.2.2.2.2.2.1 | exact hX.1.1.2.2.2.2.2.2.2.1 | exact hX.1.1.2.2.2.2.2.2.2.2.1 | exact hX.1.1.2.2.2.2.2.2.2.2.2.1 | exact hX.1.1.2.2.2.2.2.2.2.2.2.2) rfl ?_
          refine V_topi (eH E 3) hH.2.2.1 ?_
          refine V_iload 80 dX6_comesByDraws_80 rfl ?_
          refine V_icmp_gt 82 103 dX6_comesByDraws_82 rfl (fun q => absurd q s_ngt) (fun _ => ?_)
          refine V_aload_n 85 dX6_comesByDraws_85 rfl ?_
          refine V_get 86 dX6_comesByDraws_86 fdX6_91 (by first | exact hX.1.1.1 | exact hX.1.1.2.1 | exact hX.1.1.2.2.1 | exact hX.1.1.2.2.2.1 | exact hX.1.1.2.2.2.2.1 | exact hX.1.1.2.2.2.2.2.1 | exact hX.1.1.2.2.2.2.2.2.1 | exact hX.1.1.2.2.2.2.2.2.2.1 | exact hX.1.1.2.2.2.2.2.2.2.2.1 | exact hX.1.1.2.2.2.2.2.2.2.2.2.1 | exact hX.1.1.2.2.2.2.2.2.2.2.2.2) rfl ?_
          refine V_topi (eH E 3) hH.2.2.1 ?_
          refine V_iload 89 dX6_comesByDraws_89 rfl ?_
          refine V_icmp_ne 91 107 dX6_comesByDraws_91 rfl (fun q => absurd s_eq q) (fun _ => ?_)
          refine V_aload_n 94 dX6_comesByDraws_94 rfl ?_
          refine V_get 95 dX6_comesByDraws_95 fdX6_88 (by first | exact hX.1.1.1 | exact hX.1.1.2.1 | exact hX.1.1.2.2.1 | exact hX.1.1.2.2.2.1 | exact hX.1.1.2.2.2.2.1 | exact hX.1.1.2.2.2.2.2.1 | exact hX.1.1.2.2.2.2.2.2.1 | exact hX.1.1.2.2.2.2.2.2.2.1 | exact hX.1.1.2.2.2.2.2.2.2.2.1 | exact hX.1.1.2.2.2.2.2.2.2.2.2.1 | exact hX.1.1.2.2.2.2.2.2.2.2.2.2) rfl ?_
          refine V_topi (eH E 2) hH.2.1 ?_
          refine V_iload 98 dX6_comesByDraws_98 rfl ?_
          refine V_icmp_le 100 107 dX6_comesByDraws_100 rfl (fun q => absurd q s_m) (fun _ => ?_)
          refine V_iconstv 103 (1) dX6_comesByDraws_103 (by decide) ?_
          refine V_goto 104 108 dX6_comesByDraws_104 rfl ?_
          refine V_istore 108 dX6_comesByDraws_108 rfl rfl ?_
          refine V_aload_n 110 dX6_comesByDraws_110 rfl ?_
          refine V_get 111 dX6_comesByDraws_111 fdX6_91 (by first | exact hX.1.1.1 | exact hX.1.1.2.1 | exact hX.1.1.2.2.1 | exact hX.1.1.2.2.2.1 | exact hX.1.1.2.2.2.2.1 | exact hX.1.1.2.2.2.2.2.1 | exact hX.1.1.2.2.2.2.2.2.1 | exact hX.1.1.2.2.2.2.2.2.2.1 | exact hX.1.1.2.2.2.2.2.2.2.2.1 | exact hX.1.1.2.2.2.2.2.2.2.2.2.1 | exact hX.1.1.2.2.2.2.2.2.2.2.2.2) rfl ?_
          refine V_topi (eH E 3) hH.2.2.1 ?_
          refine V_iload 114 dX6_comesByDraws_114 rfl ?_
          refine V_icmp_ne 116 132 dX6_comesByDraws_116 rfl (fun q => absurd s_eq q) (fun _ => ?_)
          refine V_aload_n 119 dX6_comesByDraws_119 rfl ?_
          refine V_get 120 dX6_comesByDraws_120 fdX6_88 (by first | exact hX.1.1.1 | exact hX.1.1.2.1 | exact hX.1.1.2.2.1 | exact hX.1.1.2.2.2.1 | exact hX.1.1.2.2.2.2.1 | exact hX.1.1.2.2.2.2.2.1 | exact hX.1.1.2.2.2.2.2.2.1 | exact hX.1.1.2.2.2.2.2.2.2.1 | exact hX.1.1.2.2.2.2.2.2.2.2.1 | exact hX.1.1.2.2.2.2.2.2.2.2.2.1 | exact hX.1.1.2.2.2.2.2.2.2.2.2.2) rfl ?_
          refine V_topi (eH E 2) hH.2.1 ?_
          refine V_iload 123 dX6_comesByDraws_123 rfl ?_
          refine V_icmp_ne 125 132 dX6_comesByDraws_125 rfl (fun _ => ?_) (fun q => absurd q s_n)
          refine V_iconstv 132 (0) dX6_comesByDraws_132 (by decide) ?_
          refine V_istore 133 dX6_comesByDraws_133 rfl rfl ?_
          refine V_iload_n 135 dX6_comesByDraws_135 rfl ?_
          refine V_if_eq 136 150 dX6_comesByDraws_136 rfl (fun _ => ?_) (fun q => absurd c_r q)
          refine V_iload_n 150 dX6_comesByDraws_150 rfl ?_
          refine V_if_eq 151 167 dX6_comesByDraws_151 rfl (fun _ => ?_) (fun q => absurd c_r q)
          refine V_aload_n 167 dX6_comesByDraws_167 rfl ?_
          refine V_iload_n 168 dX6_comesByDraws_168 rfl ?_
          refine V_if_eq 169 181 dX6_comesByDraws_169 rfl (fun _ => ?_) (fun q => absurd c_r q)
          refine V_aload_n 181 dX6_comesByDraws_181 rfl ?_
          refine V_get 182 dX6_comesByDraws_182 fdX6_97 (by first | exact hX.1.1.1 | exact hX.1.1.2.1 | exact hX.1.1.2.2.1 | exact hX.1.1.2.2.2.1 | exact hX.1.1.2.2.2.2.1 | exact hX.1.1.2.2.2.2.2.1 | exact hX.1.1.2.2.2.2.2.2.1 | exact hX.1.1.2.2.2.2.2.2.2.1 | exact hX.1.1.2.2.2.2.2.2.2.2.1 | exact hX.1.1.2.2.2.2.2.2.2.2.2.1 | exact hX.1.1.2.2.2.2.2.2.2.2.2.2) rfl ?_
          refine V_putM 185 dX6_comesByDraws_185 fpX6_97 hX.1 rfl rfl (fun h hM => ?_)
          replace hX := (hX.scr (by omega) (by omega) hM)
          have hH2 := HD.al hH rfl
          refine V_aload_n 188 dX6_comesByDraws_188 rfl ?_
          refine V_dupr 189 dX6_comesByDraws_189 ?_
          refine V_get 190 dX6_comesByDraws_190 fdX6_94 (by first | exact hX.1.1.1 | exact hX.1.1.2.1 | exact hX.1.1.2.2.1 | exact hX.1.1.2.2.2.1 | exact hX.1.1.2.2.2.2.1 | exact hX.1.1.2.2.2.2.2.1 | exact hX.1.1.2.2.2.2.2.2.1 | exact hX.1.1.2.2.2.2.2.2.2.1 | exact hX.1.1.2.2.2.2.2.2.2.2.1 | exact hX.1.1.2.2.2.2.2.2.2.2.2.1 | exact hX.1.1.2.2.2.2.2.2.2.2.2.2) rfl ?_
          refine V_iconstv 193 (1) dX6_comesByDraws_193 (by decide) ?_
          refine V_iadd 194 dX6_comesByDraws_194 ?_
          refine V_putM 195 dX6_comesByDraws_195 fpX6_94 hX.1 rfl rfl (fun h hM => ?_)
          replace hX := (hX.scr (by omega) (by omega) hM).hand (upd (eH E) 4 (eH E 4 + 1))
          have hH3 := hH2.st2
          refine V_aload_n 198 dX6_comesByDraws_198 rfl ?_
          refine V_iload_n 199 dX6_comesByDraws_199 rfl ?_
          refine V_iv1 200 dX6_comesByDraws_200 kvX6_100 rfl (by first | exact hX.1.1.1 | exact hX.1.1.2.1 | exact hX.1.1.2.2.1 | exact hX.1.1.2.2.2.1 | exact hX.1.1.2.2.2.2.1 | exact hX.1.1.2.2.2.2.2.1 | exact hX.1.1.2.2.2.2.2.2.1 | exact hX.1.1.2.2.2.2.2.2.2.1 | exact hX.1.1.2.2.2.2.2.2.2.2.1 | exact hX.1.1.2.2.2.2.2.2.2.2.2.1 | exact hX.1.1.2.2.2.2.2.2.2.2.2.2) rfl rfl (c_X6_goesOn (E := st2 E) hX hH3 (by show eN E < 12; exact hc) 6 (by decide) (by show eH E 1 = nI 6; exact hk5) hln (fun h M1 hX hI => ?_))
          refine V_vret 203 dX6_comesByDraws_203 ?_
          unfold toE at k
          rw [k0, if_neg (hr0 c_r), if_neg c_26, dl3_ot] at k
          exact k _ _ hX
      · have s_ne : ¬ eH E 3 = eC E (8 * i + 3) := s_eq
        refine V_aload_n 76 dX6_comesByDraws_76 rfl ?_
        refine V_get 77 dX6_comesByDraws_77 fdX6_91 (by first | exact hX.1.1.1 | exact hX.1.1.2.1 | exact hX.1.1.2.2.1 | exact hX.1.1.2.2.2.1 | exact hX.1.1.2.2.2.2.1 | exact hX.1.1.2.2.2.2.2.1 | exact hX.1.1.2.2.2.2.2.2.1 | exact hX.1.1.2.2.2.2.2.2.2.1 | exact hX.1.1.2.2.2.2.2.2.2.2.1 | exact hX.1.1.2.2.2.2.2.2.2.2.2.1 | exact hX.1.1.2.2.2.2.2.2.2.2.2.2) rfl ?_
        refine V_topi (eH E 3) hH.2.2.1 ?_
        refine V_iload 80 dX6_comesByDraws_80 rfl ?_
        refine V_icmp_gt 82 103 dX6_comesByDraws_82 rfl (fun q => absurd q s_ngt) (fun _ => ?_)
        refine V_aload_n 85 dX6_comesByDraws_85 rfl ?_
        refine V_get 86 dX6_comesByDraws_86 fdX6_91 (by first | exact hX.1.1.1 | exact hX.1.1.2.1 | exact hX.1.1.2.2.1 | exact hX.1.1.2.2.2.1 | exact hX.1.1.2.2.2.2.1 | exact hX.1.1.2.2.2.2.2.1 | exact hX.1.1.2.2.2.2.2.2.1 | exact hX.1.1.2.2.2.2.2.2.2.1 | exact hX.1.1.2.2.2.2.2.2.2.2.1 | exact hX.1.1.2.2.2.2.2.2.2.2.2.1 | exact hX.1.1.2.2.2.2.2.2.2.2.2.2) rfl ?_
        refine V_topi (eH E 3) hH.2.2.1 ?_
        refine V_iload 89 dX6_comesByDraws_89 rfl ?_
        refine V_icmp_ne 91 107 dX6_comesByDraws_91 rfl (fun _ => ?_) (fun q => absurd q s_ne)
        refine V_iconstv 107 (0) dX6_comesByDraws_107 (by decide) ?_
        refine V_istore 108 dX6_comesByDraws_108 rfl rfl ?_
        refine V_aload_n 110 dX6_comesByDraws_110 rfl ?_
        refine V_get 111 dX6_comesByDraws_111 fdX6_91 (by first | exact hX.1.1.1 | exact hX.1.1.2.1 | exact hX.1.1.2.2.1 | exact hX.1.1.2.2.2.1 | exact hX.1.1.2.2.2.2.1 | exact hX.1.1.2.2.2.2.2.1 | exact hX.1.1.2.2.2.2.2.2.1 | exact hX.1.1.2.2.2.2.2.2.2.1 | exact hX.1.1.2.2.2.2.2.2.2.2.1 | exact hX.1.1.2.2.2.2.2.2.2.2.2.1 | exact hX.1.1.2.2.2.2.2.2.2.2.2.2) rfl ?_
        refine V_topi (eH E 3) hH.2.2.1 ?_
        refine V_iload 114 dX6_comesByDraws_114 rfl ?_
        refine V_icmp_ne 116 132 dX6_comesByDraws_116 rfl (fun _ => ?_) (fun q => absurd q s_ne)
        refine V_iconstv 132 (0) dX6_comesByDraws_132 (by decide) ?_
        refine V_istore 133 dX6_comesByDraws_133 rfl rfl ?_
        refine V_iload_n 135 dX6_comesByDraws_135 rfl ?_
        refine V_if_eq 136 150 dX6_comesByDraws_136 rfl (fun _ => ?_) (fun q => absurd c_r q)
        refine V_iload_n 150 dX6_comesByDraws_150 rfl ?_
        refine V_if_eq 151 167 dX6_comesByDraws_151 rfl (fun _ => ?_) (fun q => absurd c_r q)
        refine V_aload_n 167 dX6_comesByDraws_167 rfl ?_
        refine V_iload_n 168 dX6_comesByDraws_168 rfl ?_
        refine V_if_eq 169 181 dX6_comesByDraws_169 rfl (fun _ => ?_) (fun q => absurd c_r q)
        refine V_aload_n 181 dX6_comesByDraws_181 rfl ?_
        refine V_get 182 dX6_comesByDraws_182 fdX6_97 (by first | exact hX.1.1.1 | exact hX.1.1.2.1 | exact hX.1.1.2.2.1 | exact hX.1.1.2.2.2.1 | exact hX.1.1.2.2.2.2.1 | exact hX.1.1.2.2.2.2.2.1 | exact hX.1.1.2.2.2.2.2.2.1 | exact hX.1.1.2.2.2.2.2.2.2.1 | exact hX.1.1.2.2.2.2.2.2.2.2.1 | exact hX.1.1.2.2.2.2.2.2.2.2.2.1 | exact hX.1.1.2.2.2.2.2.2.2.2.2.2) rfl ?_
        refine V_putM 185 dX6_comesByDraws_185 fpX6_97 hX.1 rfl rfl (fun h hM => ?_)
        replace hX := (hX.scr (by omega) (by omega) hM)
        have hH2 := HD.al hH rfl
        refine V_aload_n 188 dX6_comesByDraws_188 rfl ?_
        refine V_dupr 189 dX6_comesByDraws_189 ?_
        refine V_get 190 dX6_comesByDraws_190 fdX6_94 (by first | exact hX.1.1.1 | exact hX.1.1.2.1 | exact hX.1.1.2.2.1 | exact hX.1.1.2.2.2.1 | exact hX.1.1.2.2.2.2.1 | exact hX.1.1.2.2.2.2.2.1 | exact hX.1.1.2.2.2.2.2.2.1 | exact hX.1.1.2.2.2.2.2.2.2.1 | exact hX.1.1.2.2.2.2.2.2.2.2.1 | exact hX.1.1.2.2.2.2.2.2.2.2.2.1 | exact hX.1.1.2.2.2.2.2.2.2.2.2.2) rfl ?_
        refine V_iconstv 193 (1) dX6_comesByDraws_193 (by decide) ?_
        refine V_iadd 194 dX6_comesByDraws_194 ?_
        refine V_putM 195 dX6_comesByDraws_195 fpX6_94 hX.1 rfl rfl (fun h hM => ?_)
        replace hX := (hX.scr (by omega) (by omega) hM).hand (upd (eH E) 4 (eH E 4 + 1))
        have hH3 := hH2.st2
        refine V_aload_n 198 dX6_comesByDraws_198 rfl ?_
        refine V_iload_n 199 dX6_comesByDraws_199 rfl ?_
        refine V_iv1 200 dX6_comesByDraws_200 kvX6_100 rfl (by first | exact hX.1.1.1 | exact hX.1.1.2.1 | exact hX.1.1.2.2.1 | exact hX.1.1.2.2.2.1 | exact hX.1.1.2.2.2.2.1 | exact hX.1.1.2.2.2.2.2.1 | exact hX.1.1.2.2.2.2.2.2.1 | exact hX.1.1.2.2.2.2.2.2.2.1 | exact hX.1.1.2.2.2.2.2.2.2.2.1 | exact hX.1.1.2.2.2.2.2.2.2.2.2.1 | exact hX.1.1.2.2.2.2.2.2.2.2.2.2) rfl rfl (c_X6_goesOn (E := st2 E) hX hH3 (by show eN E < 12; exact hc) 6 (by decide) (by show eH E 1 = nI 6; exact hk5) hln (fun h M1 hX hI => ?_))
        refine V_vret 203 dX6_comesByDraws_203 ?_
        unfold toE at k
        rw [k0, if_neg (hr0 c_r), if_neg c_26, dl3_ot] at k
        exact k _ _ hX
    · refine V_iload_n 29 dX6_comesByDraws_29 rfl ?_
      refine V_if_eq 30 54 dX6_comesByDraws_30 rfl (fun _ => ?_) (fun q => absurd c_r q)
      refine V_iload_n 54 dX6_comesByDraws_54 rfl ?_
      refine V_if_eq 55 75 dX6_comesByDraws_55 rfl (fun _ => ?_) (fun q => absurd c_r q)
      refine V_vret 75 dX6_comesByDraws_75 ?_
      unfold toE at k
      rw [k0, if_neg (hr0 c_r), if_pos c_26, dl3_of] at k
      exact k _ _ (hX.hand _)
  · obtain ⟨p, q, a, b, a0, b0, hp3, hq3, hp2, hq2, hc3, hb3, hc2, hb2, ha0, hx0, hb0, hb9, hG0⟩ := hbd (hr1 c_r)
    refine V_aload_n 0 dX6_comesByDraws_0 rfl ?_
    refine V_iload_n 1 dX6_comesByDraws_1 rfl ?_
    refine V_iload_n 2 dX6_comesByDraws_2 rfl ?_
    refine V_iconstv 3 (3) dX6_comesByDraws_3 (by decide) ?_
    refine V_iv3 4 dX6_comesByDraws_4 kvX6_56 rfl (by first | exact hX.1.1.1 | exact hX.1.1.2.1 | exact hX.1.1.2.2.1 | exact hX.1.1.2.2.2.1 | exact hX.1.1.2.2.2.2.1 | exact hX.1.1.2.2.2.2.2.1 | exact hX.1.1.2.2.2.2.2.2.1 | exact hX.1.1.2.2.2.2.2.2.2.1 | exact hX.1.1.2.2.2.2.2.2.2.2.1 | exact hX.1.1.2.2.2.2.2.2.2.2.2.1 | exact hX.1.1.2.2.2.2.2.2.2.2.2.2) rfl rfl (c_X6_has hX.1 r i 3 (by unfold ctA; have := hX.2.2.2.2.2; omega) ?_)
    refine V_topi _ ((hX.2.2.2.2.1.2.2.2.2.1 i hi).2.2.2.1) ?_
    refine V_istore 7 dX6_comesByDraws_7 rfl rfl ?_
    refine V_aload_n 9 dX6_comesByDraws_9 rfl ?_
    refine V_iload_n 10 dX6_comesByDraws_10 rfl ?_
    refine V_iload_n 11 dX6_comesByDraws_11 rfl ?_
    refine V_iconstv 12 (2) dX6_comesByDraws_12 (by decide) ?_
    refine V_iv3 13 dX6_comesByDraws_13 kvX6_56 rfl (by first | exact hX.1.1.1 | exact hX.1.1.2.1 | exact hX.1.1.2.2.1 | exact hX.1.1.2.2.2.1 | exact hX.1.1.2.2.2.2.1 | exact hX.1.1.2.2.2.2.2.1 | exact hX.1.1.2.2.2.2.2.2.1 | exact hX.1.1.2.2.2.2.2.2.2.1 | exact hX.1.1.2.2.2.2.2.2.2.2.1 | exact hX.1.1.2.2.2.2.2.2.2.2.2.1 | exact hX.1.1.2.2.2.2.2.2.2.2.2.2) rfl rfl (c_X6_has hX.1 r i 2 (by unfold ctA; have := hX.2.2.2.2.2; omega) ?_)
    refine V_topi _ ((hX.2.2.2.2.1.2.2.2.2.1 i hi).2.2.1) ?_
    refine V_istore 16 dX6_comesByDraws_16 rfl rfl ?_
    refine V_aload_n 18 dX6_comesByDraws_18 rfl ?_
    refine V_get 19 dX6_comesByDraws_19 fdX6_94 (by first | exact hX.1.1.1 | exact hX.1.1.2.1 | exact hX.1.1.2.2.1 | exact hX.1.1.2.2.2.1 | exact hX.1.1.2.2.2.2.1 | exact hX.1.1.2.2.2.2.2.1 | exact hX.1.1.2.2.2.2.2.2.1 | exact hX.1.1.2.2.2.2.2.2.2.1 | exact hX.1.1.2.2.2.2.2.2.2.2.1 | exact hX.1.1.2.2.2.2.2.2.2.2.2.1 | exact hX.1.1.2.2.2.2.2.2.2.2.2.2) rfl ?_
    refine V_topi (eH E 4) hH.2.2.2.1 ?_
    refine V_aload_n 22 dX6_comesByDraws_22 rfl ?_
    refine V_get 23 dX6_comesByDraws_23 fdX6_41 (by first | exact hX.1.1.1 | exact hX.1.1.2.1 | exact hX.1.1.2.2.1 | exact hX.1.1.2.2.2.1 | exact hX.1.1.2.2.2.2.1 | exact hX.1.1.2.2.2.2.2.1 | exact hX.1.1.2.2.2.2.2.2.1 | exact hX.1.1.2.2.2.2.2.2.2.1 | exact hX.1.1.2.2.2.2.2.2.2.2.1 | exact hX.1.1.2.2.2.2.2.2.2.2.2.1 | exact hX.1.1.2.2.2.2.2.2.2.2.2.2) rfl ?_
    refine V_topi (nI Q.1) hX.2.2.1 ?_
    refine V_icmp_ne 26 76 dX6_comesByDraws_26 rfl (fun c_26 => ?_) (fun c_26 => ?_)
    · by_cases s_gt : eC E (8 * i + 3) < eH E 3
      · have s_ne : ¬ eH E 3 = eC E (8 * i + 3) := fun q => by rw [q] at s_gt; exact absurd (Int32.lt_iff_toInt_lt.mp s_gt) (by omega)
        have g_gt : 0 < eH E 3 - eC E (8 * i + 3) := by rw [hb3, hc3, i32_lt0 hq3 hp3]; rw [hb3, hc3] at s_gt; exact (nI_ltI (by omega) (by omega)).mp s_gt
        refine V_aload_n 76 dX6_comesByDraws_76 rfl ?_
        refine V_get 77 dX6_comesByDraws_77 fdX6_91 (by first | exact hX.1.1.1 | exact hX.1.1.2.1 | exact hX.1.1.2.2.1 | exact hX.1.1.2.2.2.1 | exact hX.1.1.2.2.2.2.1 | exact hX.1.1.2.2.2.2.2.1 | exact hX.1.1.2.2.2.2.2.2.1 | exact hX.1.1.2.2.2.2.2.2.2.1 | exact hX.1.1.2.2.2.2.2.2.2.2.1 | exact hX.1.1.2.2.2.2.2.2.2.2.2.1 | exact hX.1.1.2.2.2.2.2.2.2.2.2.2) rfl ?_
        refine V_topi (eH E 3) hH.2.2.1 ?_
        refine V_iload 80 dX6_comesByDraws_80 rfl ?_
        refine V_icmp_gt 82 103 dX6_comesByDraws_82 rfl (fun _ => ?_) (fun q => absurd s_gt q)
        refine V_iconstv 103 (1) dX6_comesByDraws_103 (by decide) ?_
        refine V_goto 104 108 dX6_comesByDraws_104 rfl ?_
        refine V_istore 108 dX6_comesByDraws_108 rfl rfl ?_
        refine V_aload_n 110 dX6_comesByDraws_110 rfl ?_
        refine V_get 111 dX6_comesByDraws_111 fdX6_91 (by first | exact hX.1.1.1 | exact hX.1.1.2.1 | exact hX.1.1.2.2.1 | exact hX.1.1.2.2.2.1 | exact hX.1.1.2.2.2.2.1 | exact hX.1.1.2.2.2.2.2.1 | exact hX.1.1.2.2.2.2.2.2.1 | exact hX.1.1.2.2.2.2.2.2.2.1 | exact hX.1.1.2.2.2.2.2.2.2.2.1 | exact hX.1.1.2.2.2.2.2.2.2.2.2.1 | exact hX.1.1.2.2.2.2.2.2.2.2.2.2) rfl ?_
        refine V_topi (eH E 3) hH.2.2.1 ?_
        refine V_iload 114 dX6_comesByDraws_114 rfl ?_
        refine V_icmp_ne 116 132 dX6_comesByDraws_116 rfl (fun _ => ?_) (fun q => absurd q s_ne)
        refine V_iconstv 132 (0) dX6_comesByDraws_132 (by decide) ?_
        refine V_istore 133 dX6_comesByDraws_133 rfl rfl ?_
        refine V_iload_n 135 dX6_comesByDraws_135 rfl ?_
        refine V_if_eq 136 150 dX6_comesByDraws_136 rfl (fun q => absurd q c_r) (fun _ => ?_)
        refine V_iload 139 dX6_comesByDraws_139 rfl ?_
        refine V_if_ne 141 150 dX6_comesByDraws_141 rfl (fun _ => ?_) (fun q => absurd q (by decide))
        refine V_iload_n 150 dX6_comesByDraws_150 rfl ?_
        refine V_if_eq 151 167 dX6_comesByDraws_151 rfl (fun q => absurd q c_r) (fun _ => ?_)
        refine V_iload 154 dX6_comesByDraws_154 rfl ?_
        refine V_if_eq 156 167 dX6_comesByDraws_156 rfl (fun q => absurd q (by decide)) (fun _ => ?_)
        refine V_aload_n 159 dX6_comesByDraws_159 rfl ?_
        refine V_iload_n 160 dX6_comesByDraws_160 rfl ?_
        refine V_iload_n 161 dX6_comesByDraws_161 rfl ?_
        refine V_iconstv 162 (1) dX6_comesByDraws_162 (by decide) ?_
        refine V_iconstv 163 (2) dX6_comesByDraws_163 (by decide) ?_
        refine V_iv4 164 dX6_comesByDraws_164 kvX6_59 rfl (by first | exact hX.1.1.1 | exact hX.1.1.2.1 | exact hX.1.1.2.2.1 | exact hX.1.1.2.2.2.1 | exact hX.1.1.2.2.2.2.1 | exact hX.1.1.2.2.2.2.2.1 | exact hX.1.1.2.2.2.2.2.2.1 | exact hX.1.1.2.2.2.2.2.2.2.1 | exact hX.1.1.2.2.2.2.2.2.2.2.1 | exact hX.1.1.2.2.2.2.2.2.2.2.2.1 | exact hX.1.1.2.2.2.2.2.2.2.2.2.2) rfl rfl (c_X6_setX hX i 1 hi (by omega) (show RowE _ _ _ (setE _ (nI i) 0 _) from hX.2.2.2.2.1.st hi hn 1 0 (by omega)) (fun h M1 hX hI hrow => ?_))
        replace hH := HD.of hI hH
        replace hln := (congrFun hI 10).trans hln
        refine V_aload_n 167 dX6_comesByDraws_167 rfl ?_
        refine V_iload_n 168 dX6_comesByDraws_168 rfl ?_
        refine V_if_eq 169 181 dX6_comesByDraws_169 rfl (fun q => absurd q c_r) (fun _ => ?_)
        refine V_iload 172 dX6_comesByDraws_172 rfl ?_
        refine V_if_eq 174 181 dX6_comesByDraws_174 rfl (fun _ => ?_) (fun q => absurd q (by decide))
        refine V_aload_n 181 dX6_comesByDraws_181 rfl ?_
        refine V_get 182 dX6_comesByDraws_182 fdX6_97 (by first | exact hX.1.1.1 | exact hX.1.1.2.1 | exact hX.1.1.2.2.1 | exact hX.1.1.2.2.2.1 | exact hX.1.1.2.2.2.2.1 | exact hX.1.1.2.2.2.2.2.1 | exact hX.1.1.2.2.2.2.2.2.1 | exact hX.1.1.2.2.2.2.2.2.2.1 | exact hX.1.1.2.2.2.2.2.2.2.2.1 | exact hX.1.1.2.2.2.2.2.2.2.2.2.1 | exact hX.1.1.2.2.2.2.2.2.2.2.2.2) rfl ?_
        refine V_putM 185 dX6_comesByDraws_185 fpX6_97 hX.1 rfl rfl (fun h hM => ?_)
        replace hX := (hX.scr (by omega) (by omega) hM)
        have hH2 := HD.al (hH.set (nI i) 0 2) rfl
        refine V_aload_n 188 dX6_comesByDraws_188 rfl ?_
        refine V_dupr 189 dX6_comesByDraws_189 ?_
        refine V_get 190 dX6_comesByDraws_190 fdX6_94 (by first | exact hX.1.1.1 | exact hX.1.1.2.1 | exact hX.1.1.2.2.1 | exact hX.1.1.2.2.2.1 | exact hX.1.1.2.2.2.2.1 | exact hX.1.1.2.2.2.2.2.1 | exact hX.1.1.2.2.2.2.2.2.1 | exact hX.1.1.2.2.2.2.2.2.2.1 | exact hX.1.1.2.2.2.2.2.2.2.2.1 | exact hX.1.1.2.2.2.2.2.2.2.2.2.1 | exact hX.1.1.2.2.2.2.2.2.2.2.2.2) rfl ?_
        refine V_iconstv 193 (1) dX6_comesByDraws_193 (by decide) ?_
        refine V_iadd 194 dX6_comesByDraws_194 ?_
        refine V_putM 195 dX6_comesByDraws_195 fpX6_94 hX.1 rfl rfl (fun h hM => ?_)
        replace hX := (hX.scr (by omega) (by omega) hM).hand (upd (eH (setE E (nI i) 0 2)) 4 (eH (setE E (nI i) 0 2) 4 + 1))
        have hH3 := hH2.st2
        refine V_aload_n 198 dX6_comesByDraws_198 rfl ?_
        refine V_iload_n 199 dX6_comesByDraws_199 rfl ?_
        refine V_iv1 200 dX6_comesByDraws_200 kvX6_100 rfl (by first | exact hX.1.1.1 | exact hX.1.1.2.1 | exact hX.1.1.2.2.1 | exact hX.1.1.2.2.2.1 | exact hX.1.1.2.2.2.2.1 | exact hX.1.1.2.2.2.2.2.1 | exact hX.1.1.2.2.2.2.2.2.1 | exact hX.1.1.2.2.2.2.2.2.2.1 | exact hX.1.1.2.2.2.2.2.2.2.2.1 | exact hX.1.1.2.2.2.2.2.2.2.2.2.1 | exact hX.1.1.2.2.2.2.2.2.2.2.2.2) rfl rfl (c_X6_goesOn (E := st2 (setE E (nI i) 0 2)) hX hH3 (by show eN (setE E (nI i) 0 2) < 12; rw [eN_set]; exact hc) 6 (by decide) (by show eH (setE E (nI i) 0 2) 1 = nI 6; rw [eH_set]; exact hk5) hln (fun h M1 hX hI => ?_))
        refine V_vret 203 dX6_comesByDraws_203 ?_
        unfold toE at k
        rw [k0, if_pos (hr1 c_r), if_neg c_26] at k
        unfold tgE tg1 at k
        rw [k3, k2] at k
        rw [if_neg (fun q => s_ne (i32_sub0.mp q))] at k
        unfold tg2 at k
        rw [if_pos g_gt, dl3_ot] at k
        exact k _ _ hX
      have s_ngt : ¬ eC E (8 * i + 3) < eH E 3 := s_gt
      have g_ngt : ¬ 0 < eH E 3 - eC E (8 * i + 3) := fun q => s_ngt (by rw [hb3, hc3, i32_lt0 hq3 hp3] at q; rw [hb3, hc3]; exact nI_lt q (by omega))
      by_cases s_eq : eH E 3 = eC E (8 * i + 3)
      · by_cases s_n : eH E 2 = eC E (8 * i + 2)
        · have s_m : eH E 2 ≤ eC E (8 * i + 2) := by rw [s_n]; exact Int32.le_refl _
          refine V_aload_n 76 dX6_comesByDraws_76 rfl ?_
          refine V_get 77 dX6_comesByDraws_77 fdX6_91 (by first | exact hX.1.1.1 | exact hX.1.1.2.1 | exact hX.1.1.2.2.1 | exact hX.1.1.2.2.2.1 | exact hX.1.1.2.2.2.2.1 | exact hX.1.1.2.2.2.2.2.1 | exact hX.1.1.2.2.2.2.2.2.1 | exact hX.1.1.2.2.2.2.2.2.2.1 | exact hX.1.1.2.2.2.2.2.2.2.2.1 | exact hX.1.1.2.2.2.2.2.2.2.2.2.1 | exact hX.1.1.2.2.2.2.2.2.2.2.2.2) rfl ?_
          refine V_topi (eH E 3) hH.2.2.1 ?_
          refine V_iload 80 dX6_comesByDraws_80 rfl ?_
          refine V_icmp_gt 82 103 dX6_comesByDraws_82 rfl (fun q => absurd q s_ngt) (fun _ => ?_)
          refine V_aload_n 85 dX6_comesByDraws_85 rfl ?_
          refine V_get 86 dX6_comesByDraws_86 fdX6_91 (by first | exact hX.1.1.1 | exact hX.1.1.2.1 | exact hX.1.1.2.2.1 | exact hX.1.1.2.2.2.1 | exact hX.1.1.2.2.2.2.1 | exact hX.1.1.2.2.2.2.2.1 | exact hX.1.1.2.2.2.2.2.2.1 | exact hX.1.1.2.2.2.2.2.2.2.1 | exact hX.1.1.2.2.2.2.2.2.2.2.1 | exact hX.1.1.2.2.2.2.2.2.2.2.2.1 | exact hX.1.1.2.2.2.2.2.2.2.2.2.2) rfl ?_
          refine V_topi (eH E 3) hH.2.2.1 ?_
          refine V_iload 89 dX6_comesByDraws_89 rfl ?_
          refine V_icmp_ne 91 107 dX6_comesByDraws_91 rfl (fun q => absurd s_eq q) (fun _ => ?_)
          refine V_aload_n 94 dX6_comesByDraws_94 rfl ?_
          refine V_get 95 dX6_comesByDraws_95 fdX6_88 (by first | exact hX.1.1.1 | exact hX.1.1.2.1 | exact hX.1.1.2.2.1 | exact hX.1.1.2.2.2.1 | exact hX.1.1.2.2.2.2.1 | exact hX.1.1.2.2.2.2.2.1 | exact hX.1.1.2.2.2.2.2.2.1 | exact hX.1.1.2.2.2.2.2.2.2.1 | exact hX.1.1.2.2.2.2.2.2.2.2.1 | exact hX.1.1.2.2.2.2.2.2.2.2.2.1 | exact hX.1.1.2.2.2.2.2.2.2.2.2.2) rfl ?_
          refine V_topi (eH E 2) hH.2.1 ?_
          refine V_iload 98 dX6_comesByDraws_98 rfl ?_
          refine V_icmp_le 100 107 dX6_comesByDraws_100 rfl (fun _ => ?_) (fun q => absurd s_m q)
          refine V_iconstv 107 (0) dX6_comesByDraws_107 (by decide) ?_
          refine V_istore 108 dX6_comesByDraws_108 rfl rfl ?_
          refine V_aload_n 110 dX6_comesByDraws_110 rfl ?_
          refine V_get 111 dX6_comesByDraws_111 fdX6_91 (by first | exact hX.1.1.1 | exact hX.1.1.2.1 | exact hX.1.1.2.2.1 | exact hX.1.1.2.2.2.1 | exact hX.1.1.2.2.2.2.1 | exact hX.1.1.2.2.2.2.2.1 | exact hX.1.1.2.2.2.2.2.2.1 | exact hX.1.1.2.2.2.2.2.2.2.1 | exact hX.1.1.2.2.2.2.2.2.2.2.1 | exact hX.1.1.2.2.2.2.2.2.2.2.2.1 | exact hX.1.1.2.2.2.2.2.2.2.2.2.2) rfl ?_
          refine V_topi (eH E 3) hH.2.2.1 ?_
          refine V_iload 114 dX6_comesByDraws_114 rfl ?_
          refine V_icmp_ne 116 132 dX6_comesByDraws_116 rfl (fun q => absurd s_eq q) (fun _ => ?_)
          refine V_aload_n 119 dX6_comesByDraws_119 rfl ?_
          refine V_get 120 dX6_comesByDraws_120 fdX6_88 (by first | exact hX.1.1.1 | exact hX.1.1.2.1 | exact hX.1.1.2.2.1 | exact hX.1.1.2.2.2.1 | exact hX.1.1.2.2.2.2.1 | exact hX.1.1.2.2.2.2.2.1 | exact hX.1.1.2.2.2.2.2.2.1 | exact hX.1.1.2.2.2.2.2.2.2.1 | exact hX.1.1.2.2.2.2.2.2.2.2.1 | exact hX.1.1.2.2.2.2.2.2.2.2.2.1 | exact hX.1.1.2.2.2.2.2.2.2.2.2.2) rfl ?_
          refine V_topi (eH E 2) hH.2.1 ?_
          refine V_iload 123 dX6_comesByDraws_123 rfl ?_
          refine V_icmp_ne 125 132 dX6_comesByDraws_125 rfl (fun q => absurd s_n q) (fun _ => ?_)
          refine V_iconstv 128 (1) dX6_comesByDraws_128 (by decide) ?_
          refine V_goto 129 133 dX6_comesByDraws_129 rfl ?_
          refine V_istore 133 dX6_comesByDraws_133 rfl rfl ?_
          refine V_iload_n 135 dX6_comesByDraws_135 rfl ?_
          refine V_if_eq 136 150 dX6_comesByDraws_136 rfl (fun q => absurd q c_r) (fun _ => ?_)
          refine V_iload 139 dX6_comesByDraws_139 rfl ?_
          refine V_if_ne 141 150 dX6_comesByDraws_141 rfl (fun q => absurd q (by decide)) (fun _ => ?_)
          refine V_iload 144 dX6_comesByDraws_144 rfl ?_
          refine V_if_ne 146 150 dX6_comesByDraws_146 rfl (fun _ => ?_) (fun q => absurd q (by decide))
          refine V_iload_n 150 dX6_comesByDraws_150 rfl ?_
          refine V_if_eq 151 167 dX6_comesByDraws_151 rfl (fun q => absurd q c_r) (fun _ => ?_)
          refine V_iload 154 dX6_comesByDraws_154 rfl ?_
          refine V_if_eq 156 167 dX6_comesByDraws_156 rfl (fun _ => ?_) (fun q => absurd q (by decide))
          refine V_aload_n 167 dX6_comesByDraws_167 rfl ?_
          refine V_iload_n 168 dX6_comesByDraws_168 rfl ?_
          refine V_if_eq 169 181 dX6_comesByDraws_169 rfl (fun q => absurd q c_r) (fun _ => ?_)
          refine V_iload 172 dX6_comesByDraws_172 rfl ?_
          refine V_if_eq 174 181 dX6_comesByDraws_174 rfl (fun q => absurd q (by decide)) (fun _ => ?_)
          refine V_iconstv 177 (0) dX6_comesByDraws_177 (by decide) ?_
          refine V_goto 178 185 dX6_comesByDraws_178 rfl ?_
          refine V_putM 185 dX6_comesByDraws_185 fpX6_97 hX.1 rfl rfl (fun h hM => ?_)
          replace hX := (hX.scr (by omega) (by omega) hM).hand (upd (eH E) 5 0)
          have hH2 := hH.al0
          refine V_aload_n 188 dX6_comesByDraws_188 rfl ?_
          refine V_dupr 189 dX6_comesByDraws_189 ?_
          refine V_get 190 dX6_comesByDraws_190 fdX6_94 (by first | exact hX.1.1.1 | exact hX.1.1.2.1 | exact hX.1.1.2.2.1 | exact hX.1.1.2.2.2.1 | exact hX.1.1.2.2.2.2.1 | exact hX.1.1.2.2.2.2.2.1 | exact hX.1.1.2.2.2.2.2.2.1 | exact hX.1.1.2.2.2.2.2.2.2.1 | exact hX.1.1.2.2.2.2.2.2.2.2.1 | exact hX.1.1.2.2.2.2.2.2.2.2.2.1 | exact hX.1.1.2.2.2.2.2.2.2.2.2.2) rfl ?_
          refine V_iconstv 193 (1) dX6_comesByDraws_193 (by decide) ?_
          refine V_iadd 194 dX6_comesByDraws_194 ?_
          refine V_putM 195 dX6_comesByDraws_195 fpX6_94 hX.1 rfl rfl (fun h hM => ?_)
          replace hX := (hX.scr (by omega) (by omega) hM).hand (upd (eH (al0 E)) 4 (eH (al0 E) 4 + 1))
          have hH3 := hH2.st2
          refine V_aload_n 198 dX6_comesByDraws_198 rfl ?_
          refine V_iload_n 199 dX6_comesByDraws_199 rfl ?_
          refine V_iv1 200 dX6_comesByDraws_200 kvX6_100 rfl (by first | exact hX.1.1.1 | exact hX.1.1.2.1 | exact hX.1.1.2.2.1 | exact hX.1.1.2.2.2.1 | exact hX.1.1.2.2.2.2.1 | exact hX.1.1.2.2.2.2.2.1 | exact hX.1.1.2.2.2.2.2.2.1 | exact hX.1.1.2.2.2.2.2.2.2.1 | exact hX.1.1.2.2.2.2.2.2.2.2.1 | exact hX.1.1.2.2.2.2.2.2.2.2.2.1 | exact hX.1.1.2.2.2.2.2.2.2.2.2.2) rfl rfl (c_X6_goesOn (E := st2 (al0 E)) hX hH3 (by show eN (al0 E) < 12; exact hc) 6 (by decide) (by show eH (al0 E) 1 = nI 6; exact hk5) hln (fun h M1 hX hI => ?_))
          refine V_vret 203 dX6_comesByDraws_203 ?_
          unfold toE at k
          rw [k0, if_pos (hr1 c_r), if_neg c_26] at k
          unfold tgE tg1 at k
          rw [k3, k2] at k
          rw [if_pos (i32_sub0.mpr s_eq), if_pos (i32_sub0.mpr s_n), dl3_ot] at k
          exact k _ _ hX
        by_cases s_m : eH E 2 ≤ eC E (8 * i + 2)
        · have g_m : eH E 2 - eC E (8 * i + 2) ≤ 0 := by rw [hb2, hc2, i32_le0 hq2 hp2]; rw [hb2, hc2] at s_m; exact (nI_leI (by omega) (by omega)).mp s_m
          refine V_aload_n 76 dX6_comesByDraws_76 rfl ?_
          refine V_get 77 dX6_comesByDraws_77 fdX6_91 (by first | exact hX.1.1.1 | exact hX.1.1.2.1 | exact hX.1.1.2.2.1 | exact hX.1.1.2.2.2.1 | exact hX.1.1.2.2.2.2.1 | exact hX.1.1.2.2.2.2.2.1 | exact hX.1.1.2.2.2.2.2.2.1 | exact hX.1.1.2.2.2.2.2.2.2.1 | exact hX.1.1.2.2.2.2.2.2.2.2.1 | exact hX.1.1.2.2.2.2.2.2.2.2.2.1 | exact hX.1.1.2.2.2.2.2.2.2.2.2.2) rfl ?_
          refine V_topi (eH E 3) hH.2.2.1 ?_
          refine V_iload 80 dX6_comesByDraws_80 rfl ?_
          refine V_icmp_gt 82 103 dX6_comesByDraws_82 rfl (fun q => absurd q s_ngt) (fun _ => ?_)
          refine V_aload_n 85 dX6_comesByDraws_85 rfl ?_
          refine V_get 86 dX6_comesByDraws_86 fdX6_91 (by first | exact hX.1.1.1 | exact hX.1.1.2.1 | exact hX.1.1.2.2.1 | exact hX.1.1.2.2.2.1 | exact hX.1.1.2.2.2.2.1 | exact hX.1.1.2.2.2.2.2.1 | exact hX.1.1.2.2.2.2.2.2.1 | exact hX.1.1.2.2.2.2.2.2.2.1 | exact hX.1.1.2.2.2.2.2.2.2.2.1 | exact hX.1.1.2.2.2.2.2.2.2.2.2.1 | exact hX.1.1.2.2.2.2.2.2.2.2.2.2) rfl ?_
          refine V_topi (eH E 3) hH.2.2.1 ?_
          refine V_iload 89 dX6_comesByDraws_89 rfl ?_
          refine V_icmp_ne 91 107 dX6_comesByDraws_91 rfl (fun q => absurd s_eq q) (fun _ => ?_)
          refine V_aload_n 94 dX6_comesByDraws_94 rfl ?_
          refine V_get 95 dX6_comesByDraws_95 fdX6_88 (by first | exact hX.1.1.1 | exact hX.1.1.2.1 | exact hX.1.1.2.2.1 | exact hX.1.1.2.2.2.1 | exact hX.1.1.2.2.2.2.1 | exact hX.1.1.2.2.2.2.2.1 | exact hX.1.1.2.2.2.2.2.2.1 | exact hX.1.1.2.2.2.2.2.2.2.1 | exact hX.1.1.2.2.2.2.2.2.2.2.1 | exact hX.1.1.2.2.2.2.2.2.2.2.2.1 | exact hX.1.1.2.2.2.2.2.2.2.2.2.2) rfl ?_
          refine V_topi (eH E 2) hH.2.1 ?_
          refine V_iload 98 dX6_comesByDraws_98 rfl ?_
          refine V_icmp_le 100 107 dX6_comesByDraws_100 rfl (fun _ => ?_) (fun q => absurd s_m q)
          refine V_iconstv 107 (0) dX6_comesByDraws_107 (by decide) ?_
          refine V_istore 108 dX6_comesByDraws_108 rfl rfl ?_
          refine V_aload_n 110 dX6_comesByDraws_110 rfl ?_
          refine V_get 111 dX6_comesByDraws_111 fdX6_91 (by first | exact hX.1.1.1 | exact hX.1.1.2.1 | exact hX.1.1.2.2.1 | exact hX.1.1.2.2.2.1 | exact hX.1.1.2.2.2.2.1 | exact hX.1.1.2.2.2.2.2.1 | exact hX.1.1.2.2.2.2.2.2.1 | exact hX.1.1.2.2.2.2.2.2.2.1 | exact hX.1.1.2.2.2.2.2.2.2.2.1 | exact hX.1.1.2.2.2.2.2.2.2.2.2.1 | exact hX.1.1.2.2.2.2.2.2.2.2.2.2) rfl ?_
          refine V_topi (eH E 3) hH.2.2.1 ?_
          refine V_iload 114 dX6_comesByDraws_114 rfl ?_
          refine V_icmp_ne 116 132 dX6_comesByDraws_116 rfl (fun q => absurd s_eq q) (fun _ => ?_)
          refine V_aload_n 119 dX6_comesByDraws_119 rfl ?_
          refine V_get 120 dX6_comesByDraws_120 fdX6_88 (by first | exact hX.1.1.1 | exact hX.1.1.2.1 | exact hX.1.1.2.2.1 | exact hX.1.1.2.2.2.1 | exact hX.1.1.2.2.2.2.1 | exact hX.1.1.2.2.2.2.2.1 | exact hX.1.1.2.2.2.2.2.2.1 | exact hX.1.1.2.2.2.2.2.2.2.1 | exact hX.1.1.2.2.2.2.2.2.2.2.1 | exact hX.1.1.2.2.2.2.2.2.2.2.2.1 | exact hX.1.1.2.2.2.2.2.2.2.2.2.2) rfl ?_
          refine V_topi (eH E 2) hH.2.1 ?_
          refine V_iload 123 dX6_comesByDraws_123 rfl ?_
          refine V_icmp_ne 125 132 dX6_comesByDraws_125 rfl (fun _ => ?_) (fun q => absurd q s_n)
          refine V_iconstv 132 (0) dX6_comesByDraws_132 (by decide) ?_
          refine V_istore 133 dX6_comesByDraws_133 rfl rfl ?_
          refine V_iload_n 135 dX6_comesByDraws_135 rfl ?_
          refine V_if_eq 136 150 dX6_comesByDraws_136 rfl (fun q => absurd q c_r) (fun _ => ?_)
          refine V_iload 139 dX6_comesByDraws_139 rfl ?_
          refine V_if_ne 141 150 dX6_comesByDraws_141 rfl (fun q => absurd q (by decide)) (fun _ => ?_)
          refine V_iload 144 dX6_comesByDraws_144 rfl ?_
          refine V_if_ne 146 150 dX6_comesByDraws_146 rfl (fun q => absurd q (by decide)) (fun _ => ?_)
          refine V_vret 149 dX6_comesByDraws_149 ?_
          unfold toE at k
          rw [k0, if_pos (hr1 c_r), if_neg c_26] at k
          unfold tgE tg1 at k
          rw [k3, k2] at k
          rw [if_pos (i32_sub0.mpr s_eq), if_neg (fun q => s_n (i32_sub0.mp q))] at k
          unfold tg2 at k
          rw [if_neg g_ngt, if_pos (i32_sub0.mpr s_eq), if_pos g_m, dl3_of] at k
          exact k _ _ (hX.hand _)
        · have g_m : ¬ eH E 2 - eC E (8 * i + 2) ≤ 0 := fun q => s_m (by rw [hb2, hc2, i32_le0 hq2 hp2] at q; rw [hb2, hc2]; exact nI_le q (by omega))
          refine V_aload_n 76 dX6_comesByDraws_76 rfl ?_
          refine V_get 77 dX6_comesByDraws_77 fdX6_91 (by first | exact hX.1.1.1 | exact hX.1.1.2.1 | exact hX.1.1.2.2.1 | exact hX.1.1.2.2.2.1 | exact hX.1.1.2.2.2.2.1 | exact hX.1.1.2.2.2.2.2.1 | exact hX.1.1.2.2.2.2.2.2.1 | exact hX.1.1.2.2.2.2.2.2.2.1 | exact hX.1.1.2.2.2.2.2.2.2.2.1 | exact hX.1.1.2.2.2.2.2.2.2.2.2.1 | exact hX.1.1.2.2.2.2.2.2.2.2.2.2) rfl ?_
          refine V_topi (eH E 3) hH.2.2.1 ?_
          refine V_iload 80 dX6_comesByDraws_80 rfl ?_
          refine V_icmp_gt 82 103 dX6_comesByDraws_82 rfl (fun q => absurd q s_ngt) (fun _ => ?_)
          refine V_aload_n 85 dX6_comesByDraws_85 rfl ?_
          refine V_get 86 dX6_comesByDraws_86 fdX6_91 (by first | exact hX.1.1.1 | exact hX.1.1.2.1 | exact hX.1.1.2.2.1 | exact hX.1.1.2.2.2.1 | exact hX.1.1.2.2.2.2.1 | exact hX.1.1.2.2.2.2.2.1 | exact hX.1.1.2.2.2.2.2.2.1 | exact hX.1.1.2.2.2.2.2.2.2.1 | exact hX.1.1.2.2.2.2.2.2.2.2.1 | exact hX.1.1.2.2.2.2.2.2.2.2.2.1 | exact hX.1.1.2.2.2.2.2.2.2.2.2.2) rfl ?_
          refine V_topi (eH E 3) hH.2.2.1 ?_
          refine V_iload 89 dX6_comesByDraws_89 rfl ?_
          refine V_icmp_ne 91 107 dX6_comesByDraws_91 rfl (fun q => absurd s_eq q) (fun _ => ?_)
          refine V_aload_n 94 dX6_comesByDraws_94 rfl ?_
          refine V_get 95 dX6_comesByDraws_95 fdX6_88 (by first | exact hX.1.1.1 | exact hX.1.1.2.1 | exact hX.1.1.2.2.1 | exact hX.1.1.2.2.2.1 | exact hX.1.1.2.2.2.2.1 | exact hX.1.1.2.2.2.2.2.1 | exact hX.1.1.2.2.2.2.2.2.1 | exact hX.1.1.2.2.2.2.2.2.2.1 | exact hX.1.1.2.2.2.2.2.2.2.2.1 | exact hX.1.1.2.2.2.2.2.2.2.2.2.1 | exact hX.1.1.2.2.2.2.2.2.2.2.2.2) rfl ?_
          refine V_topi (eH E 2) hH.2.1 ?_
          refine V_iload 98 dX6_comesByDraws_98 rfl ?_
          refine V_icmp_le 100 107 dX6_comesByDraws_100 rfl (fun q => absurd q s_m) (fun _ => ?_)
          refine V_iconstv 103 (1) dX6_comesByDraws_103 (by decide) ?_
          refine V_goto 104 108 dX6_comesByDraws_104 rfl ?_
          refine V_istore 108 dX6_comesByDraws_108 rfl rfl ?_
          refine V_aload_n 110 dX6_comesByDraws_110 rfl ?_
          refine V_get 111 dX6_comesByDraws_111 fdX6_91 (by first | exact hX.1.1.1 | exact hX.1.1.2.1 | exact hX.1.1.2.2.1 | exact hX.1.1.2.2.2.1 | exact hX.1.1.2.2.2.2.1 | exact hX.1.1.2.2.2.2.2.1 | exact hX.1.1.2.2.2.2.2.2.1 | exact hX.1.1.2.2.2.2.2.2.2.1 | exact hX.1.1.2.2.2.2.2.2.2.2.1 | exact hX.1.1.2.2.2.2.2.2.2.2.2.1 | exact hX.1.1.2.2.2.2.2.2.2.2.2.2) rfl ?_
          refine V_topi (eH E 3) hH.2.2.1 ?_
          refine V_iload 114 dX6_comesByDraws_114 rfl ?_
          refine V_icmp_ne 116 132 dX6_comesByDraws_116 rfl (fun q => absurd s_eq q) (fun _ => ?_)
          refine V_aload_n 119 dX6_comesByDraws_119 rfl ?_
          refine V_get 120 dX6_comesByDraws_120 fdX6_88 (by first | exact hX.1.1.1 | exact hX.1.1.2.1 | exact hX.1.1.2.2.1 | exact hX.1.1.2.2.2.1 | exact hX.1.1.2.2.2.2.1 | exact hX.1.1.2.2.2.2.2.1 | exact hX.1.1.2.2.2.2.2.2.1 | exact hX.1.1.2.2.2.2.2.2.2.1 | exact hX.1.1.2.2.2.2.2.2.2.2.1 | exact hX.1.1.2.2.2.2.2.2.2.2.2.1 | exact hX.1.1.2.2.2.2.2.2.2.2.2.2) rfl ?_
          refine V_topi (eH E 2) hH.2.1 ?_
          refine V_iload 123 dX6_comesByDraws_123 rfl ?_
          refine V_icmp_ne 125 132 dX6_comesByDraws_125 rfl (fun _ => ?_) (fun q => absurd q s_n)
          refine V_iconstv 132 (0) dX6_comesByDraws_132 (by decide) ?_
          refine V_istore 133 dX6_comesByDraws_133 rfl rfl ?_
          refine V_iload_n 135 dX6_comesByDraws_135 rfl ?_
          refine V_if_eq 136 150 dX6_comesByDraws_136 rfl (fun q => absurd q c_r) (fun _ => ?_)
          refine V_iload 139 dX6_comesByDraws_139 rfl ?_
          refine V_if_ne 141 150 dX6_comesByDraws_141 rfl (fun _ => ?_) (fun q => absurd q (by decide))
          refine V_iload_n 150 dX6_comesByDraws_150 rfl ?_
          refine V_if_eq 151 167 dX6_comesByDraws_151 rfl (fun q => absurd q c_r) (fun _ => ?_)
          refine V_iload 154 dX6_comesByDraws_154 rfl ?_
          refine V_if_eq 156 167 dX6_comesByDraws_156 rfl (fun q => absurd q (by decide)) (fun _ => ?_)
          refine V_aload_n 159 dX6_comesByDraws_159 rfl ?_
          refine V_iload_n 160 dX6_comesByDraws_160 rfl ?_
          refine V_iload_n 161 dX6_comesByDraws_161 rfl ?_
          refine V_iconstv 162 (1) dX6_comesByDraws_162 (by decide) ?_
          refine V_iconstv 163 (2) dX6_comesByDraws_163 (by decide) ?_
          refine V_iv4 164 dX6_comesByDraws_164 kvX6_59 rfl (by first | exact hX.1.1.1 | exact hX.1.1.2.1 | exact hX.1.1.2.2.1 | exact hX.1.1.2.2.2.1 | exact hX.1.1.2.2.2.2.1 | exact hX.1.1.2.2.2.2.2.1 | exact hX.1.1.2.2.2.2.2.2.1 | exact hX.1.1.2.2.2.2.2.2.2.1 | exact hX.1.1.2.2.2.2.2.2.2.2.1 | exact hX.1.1.2.2.2.2.2.2.2.2.2.1 | exact hX.1.1.2.2.2.2.2.2.2.2.2.2) rfl rfl (c_X6_setX hX i 1 hi (by omega) (show RowE _ _ _ (setE _ (nI i) 0 _) from hX.2.2.2.2.1.st hi hn 1 0 (by omega)) (fun h M1 hX hI hrow => ?_))
          replace hH := HD.of hI hH
          replace hln := (congrFun hI 10).trans hln
          refine V_aload_n 167 dX6_comesByDraws_167 rfl ?_
          refine V_iload_n 168 dX6_comesByDraws_168 rfl ?_
          refine V_if_eq 169 181 dX6_comesByDraws_169 rfl (fun q => absurd q c_r) (fun _ => ?_)
          refine V_iload 172 dX6_comesByDraws_172 rfl ?_
          refine V_if_eq 174 181 dX6_comesByDraws_174 rfl (fun _ => ?_) (fun q => absurd q (by decide))
          refine V_aload_n 181 dX6_comesByDraws_181 rfl ?_
          refine V_get 182 dX6_comesByDraws_182 fdX6_97 (by first | exact hX.1.1.1 | exact hX.1.1.2.1 | exact hX.1.1.2.2.1 | exact hX.1.1.2.2.2.1 | exact hX.1.1.2.2.2.2.1 | exact hX.1.1.2.2.2.2.2.1 | exact hX.1.1.2.2.2.2.2.2.1 | exact hX.1.1.2.2.2.2.2.2.2.1 | exact hX.1.1.2.2.2.2.2.2.2.2.1 | exact hX.1.1.2.2.2.2.2.2.2.2.2.1 | exact hX.1.1.2.2.2.2.2.2.2.2.2.2) rfl ?_
          refine V_putM 185 dX6_comesByDraws_185 fpX6_97 hX.1 rfl rfl (fun h hM => ?_)
          replace hX := (hX.scr (by omega) (by omega) hM)
          have hH2 := HD.al (hH.set (nI i) 0 2) rfl
          refine V_aload_n 188 dX6_comesByDraws_188 rfl ?_
          refine V_dupr 189 dX6_comesByDraws_189 ?_
          refine V_get 190 dX6_comesByDraws_190 fdX6_94 (by first | exact hX.1.1.1 | exact hX.1.1.2.1 | exact hX.1.1.2.2.1 | exact hX.1.1.2.2.2.1 | exact hX.1.1.2.2.2.2.1 | exact hX.1.1.2.2.2.2.2.1 | exact hX.1.1.2.2.2.2.2.2.1 | exact hX.1.1.2.2.2.2.2.2.2.1 | exact hX.1.1.2.2.2.2.2.2.2.2.1 | exact hX.1.1.2.2.2.2.2.2.2.2.2.1 | exact hX.1.1.2.2.2.2.2.2.2.2.2.2) rfl ?_
          refine V_iconstv 193 (1) dX6_comesByDraws_193 (by decide) ?_
          refine V_iadd 194 dX6_comesByDraws_194 ?_
          refine V_putM 195 dX6_comesByDraws_195 fpX6_94 hX.1 rfl rfl (fun h hM => ?_)
          replace hX := (hX.scr (by omega) (by omega) hM).hand (upd (eH (setE E (nI i) 0 2)) 4 (eH (setE E (nI i) 0 2) 4 + 1))
          have hH3 := hH2.st2
          refine V_aload_n 198 dX6_comesByDraws_198 rfl ?_
          refine V_iload_n 199 dX6_comesByDraws_199 rfl ?_
          refine V_iv1 200 dX6_comesByDraws_200 kvX6_100 rfl (by first | exact hX.1.1.1 | exact hX.1.1.2.1 | exact hX.1.1.2.2.1 | exact hX.1.1.2.2.2.1 | exact hX.1.1.2.2.2.2.1 | exact hX.1.1.2.2.2.2.2.1 | exact hX.1.1.2.2.2.2.2.2.1 | exact hX.1.1.2.2.2.2.2.2.2.1 | exact hX.1.1.2.2.2.2.2.2.2.2.1 | exact hX.1.1.2.2.2.2.2.2.2.2.2.1 | exact hX.1.1.2.2.2.2.2.2.2.2.2.2) rfl rfl (c_X6_goesOn (E := st2 (setE E (nI i) 0 2)) hX hH3 (by show eN (setE E (nI i) 0 2) < 12; rw [eN_set]; exact hc) 6 (by decide) (by show eH (setE E (nI i) 0 2) 1 = nI 6; rw [eH_set]; exact hk5) hln (fun h M1 hX hI => ?_))
          refine V_vret 203 dX6_comesByDraws_203 ?_
          unfold toE at k
          rw [k0, if_pos (hr1 c_r), if_neg c_26] at k
          unfold tgE tg1 at k
          rw [k3, k2] at k
          rw [if_pos (i32_sub0.mpr s_eq), if_neg (fun q => s_n (i32_sub0.mp q))] at k
          unfold tg2 at k
          rw [if_neg g_ngt, if_pos (i32_sub0.mpr s_eq), if_neg g_m, dl3_ot] at k
          exact k _ _ hX
      · have s_ne : ¬ eH E 3 = eC E (8 * i + 3) := s_eq
        refine V_aload_n 76 dX6_comesByDraws_76 rfl ?_
        refine V_get 77 dX6_comesByDraws_77 fdX6_91 (by first | exact hX.1.1.1 | exact hX.1.1.2.1 | exact hX.1.1.2.2.1 | exact hX.1.1.2.2.2.1 | exact hX.1.1.2.2.2.2.1 | exact hX.1.1.2.2.2.2.2.1 | exact hX.1.1.2.2.2.2.2.2.1 | exact hX.1.1.2.2.2.2.2.2.2.1 | exact hX.1.1.2.2.2.2.2.2.2.2.1 | exact hX.1.1.2.2.2.2.2.2.2.2.2.1 | exact hX.1.1.2.2.2.2.2.2.2.2.2.2) rfl ?_
        refine V_topi (eH E 3) hH.2.2.1 ?_
        refine V_iload 80 dX6_comesByDraws_80 rfl ?_
        refine V_icmp_gt 82 103 dX6_comesByDraws_82 rfl (fun q => absurd q s_ngt) (fun _ => ?_)
        refine V_aload_n 85 dX6_comesByDraws_85 rfl ?_
        refine V_get 86 dX6_comesByDraws_86 fdX6_91 (by first | exact hX.1.1.1 | exact hX.1.1.2.1 | exact hX.1.1.2.2.1 | exact hX.1.1.2.2.2.1 | exact hX.1.1.2.2.2.2.1 | exact hX.1.1.2.2.2.2.2.1 | exact hX.1.1.2.2.2.2.2.2.1 | exact hX.1.1.2.2.2.2.2.2.2.1 | exact hX.1.1.2.2.2.2.2.2.2.2.1 | exact hX.1.1.2.2.2.2.2.2.2.2.2.1 | exact hX.1.1.2.2.2.2.2.2.2.2.2.2) rfl ?_
        refine V_topi (eH E 3) hH.2.2.1 ?_
        refine V_iload 89 dX6_comesByDraws_89 rfl ?_
        refine V_icmp_ne 91 107 dX6_comesByDraws_91 rfl (fun _ => ?_) (fun q => absurd q s_ne)
        refine V_iconstv 107 (0) dX6_comesByDraws_107 (by decide) ?_
        refine V_istore 108 dX6_comesByDraws_108 rfl rfl ?_
        refine V_aload_n 110 dX6_comesByDraws_110 rfl ?_
        refine V_get 111 dX6_comesByDraws_111 fdX6_91 (by first | exact hX.1.1.1 | exact hX.1.1.2.1 | exact hX.1.1.2.2.1 | exact hX.1.1.2.2.2.1 | exact hX.1.1.2.2.2.2.1 | exact hX.1.1.2.2.2.2.2.1 | exact hX.1.1.2.2.2.2.2.2.1 | exact hX.1.1.2.2.2.2.2.2.2.1 | exact hX.1.1.2.2.2.2.2.2.2.2.1 | exact hX.1.1.2.2.2.2.2.2.2.2.2.1 | exact hX.1.1.2.2.2.2.2.2.2.2.2.2) rfl ?_
        refine V_topi (eH E 3) hH.2.2.1 ?_
        refine V_iload 114 dX6_comesByDraws_114 rfl ?_
        refine V_icmp_ne 116 132 dX6_comesByDraws_116 rfl (fun _ => ?_) (fun q => absurd q s_ne)
        refine V_iconstv 132 (0) dX6_comesByDraws_132 (by decide) ?_
        refine V_istore 133 dX6_comesByDraws_133 rfl rfl ?_
        refine V_iload_n 135 dX6_comesByDraws_135 rfl ?_
        refine V_if_eq 136 150 dX6_comesByDraws_136 rfl (fun q => absurd q c_r) (fun _ => ?_)
        refine V_iload 139 dX6_comesByDraws_139 rfl ?_
        refine V_if_ne 141 150 dX6_comesByDraws_141 rfl (fun q => absurd q (by decide)) (fun _ => ?_)
        refine V_iload 144 dX6_comesByDraws_144 rfl ?_
        refine V_if_ne 146 150 dX6_comesByDraws_146 rfl (fun q => absurd q (by decide)) (fun _ => ?_)
        refine V_vret 149 dX6_comesByDraws_149 ?_
        unfold toE at k
        rw [k0, if_pos (hr1 c_r), if_neg c_26] at k
        unfold tgE tg1 at k
        rw [k3, k2] at k
        rw [if_neg (fun q => s_ne (i32_sub0.mp q))] at k
        unfold tg2 at k
        rw [if_neg g_ngt, if_neg (fun q => s_ne (i32_sub0.mp q)), dl3_of] at k
        exact k _ _ (hX.hand _)
    · refine V_iload_n 29 dX6_comesByDraws_29 rfl ?_
      refine V_if_eq 30 54 dX6_comesByDraws_30 rfl (fun q => absurd q c_r) (fun _ => ?_)
      refine V_aload_n 33 dX6_comesByDraws_33 rfl ?_
      refine V_get 34 dX6_comesByDraws_34 fdX6_97 (by first | exact hX.1.1.1 | exact hX.1.1.2.1 | exact hX.1.1.2.2.1 | exact hX.1.1.2.2.2.1 | exact hX.1.1.2.2.2.2.1 | exact hX.1.1.2.2.2.2.2.1 | exact hX.1.1.2.2.2.2.2.2.1 | exact hX.1.1.2.2.2.2.2.2.2.1 | exact hX.1.1.2.2.2.2.2.2.2.2.1 | exact hX.1.1.2.2.2.2.2.2.2.2.2.1 | exact hX.1.1.2.2.2.2.2.2.2.2.2.2) rfl ?_
      refine V_topi (eH E 5) hH.2.2.2.2 ?_
      refine V_iconstv 37 (1) dX6_comesByDraws_37 (by decide) ?_
      refine V_icmp_ne 38 54 dX6_comesByDraws_38 rfl (fun c_38 => ?_) (fun c_38 => ?_)
      · refine V_iload_n 54 dX6_comesByDraws_54 rfl ?_
        refine V_if_eq 55 75 dX6_comesByDraws_55 rfl (fun q => absurd q c_r) (fun _ => ?_)
        refine V_aload_n 58 dX6_comesByDraws_58 rfl ?_
        refine V_iload_n 59 dX6_comesByDraws_59 rfl ?_
        refine V_iload_n 60 dX6_comesByDraws_60 rfl ?_
        refine V_iconstv 61 (3) dX6_comesByDraws_61 (by decide) ?_
        refine V_iload 62 dX6_comesByDraws_62 rfl ?_
        refine V_iconstv 64 (1) dX6_comesByDraws_64 (by decide) ?_
        refine V_iadd 65 dX6_comesByDraws_65 ?_
        refine V_iv4 66 dX6_comesByDraws_66 kvX6_59 rfl (by first | exact hX.1.1.1 | exact hX.1.1.2.1 | exact hX.1.1.2.2.1 | exact hX.1.1.2.2.2.1 | exact hX.1.1.2.2.2.2.1 | exact hX.1.1.2.2.2.2.2.1 | exact hX.1.1.2.2.2.2.2.2.1 | exact hX.1.1.2.2.2.2.2.2.2.1 | exact hX.1.1.2.2.2.2.2.2.2.2.1 | exact hX.1.1.2.2.2.2.2.2.2.2.2.1 | exact hX.1.1.2.2.2.2.2.2.2.2.2.2) rfl rfl (c_X6_setX hX i 3 hi (by omega) (show RowE _ _ _ (setE _ (nI i) 3 _) from hX.2.2.2.2.1.st hi hn 3 3 (by omega)) (fun h M1 hX hI hrow => ?_))
        replace hH := HD.of hI hH
        replace hln := (congrFun hI 10).trans hln
        refine V_aload_n 69 dX6_comesByDraws_69 rfl ?_
        refine V_iload_n 70 dX6_comesByDraws_70 rfl ?_
        refine V_iload_n 71 dX6_comesByDraws_71 rfl ?_
        refine V_iv2 72 dX6_comesByDraws_72 kvX6_79 rfl (by first | exact hX.1.1.1 | exact hX.1.1.2.1 | exact hX.1.1.2.2.1 | exact hX.1.1.2.2.2.1 | exact hX.1.1.2.2.2.2.1 | exact hX.1.1.2.2.2.2.2.1 | exact hX.1.1.2.2.2.2.2.2.1 | exact hX.1.1.2.2.2.2.2.2.2.1 | exact hX.1.1.2.2.2.2.2.2.2.2.1 | exact hX.1.1.2.2.2.2.2.2.2.2.2.1 | exact hX.1.1.2.2.2.2.2.2.2.2.2.2) rfl rfl (c_X6_draws hX i hi (by rw [eW_set]; exact hw) (by rw [eN_set]; exact hc) a0 ha0 (by rw [show eC (setE E (nI i) 3 (eC E (8 * i + 3) + 1)) = upd (eC E) (8 * i + 3) (eC E (8 * i + 3) + 1) from eC_set E (c := 3) (by omega) (by omega) _, pk_un (by omega)]; exact hx0) b0 hb0 hb9 (by rw [eG_set]; exact hG0) (fun h M1 hX hI => ?_))
        refine V_vret 75 dX6_comesByDraws_75 ?_
        unfold toE at k
        rw [k0, if_pos (hr1 c_r), if_pos c_26] at k
        unfold tcE at k
        first | (rw [if_pos c_38, dl3_of] at k; exact k _ _ (hX.hand _)) | (rw [if_neg c_38, k3, dl3_of] at k; exact k _ _ (hX.hand _))
      · refine V_aload_n 41 dX6_comesByDraws_41 rfl ?_
        refine V_iload_n 42 dX6_comesByDraws_42 rfl ?_
        refine V_iload_n 43 dX6_comesByDraws_43 rfl ?_
        refine V_aload_n 44 dX6_comesByDraws_44 rfl ?_
        refine V_get 45 dX6_comesByDraws_45 fdX6_88 (by first | exact hX.1.1.1 | exact hX.1.1.2.1 | exact hX.1.1.2.2.1 | exact hX.1.1.2.2.2.1 | exact hX.1.1.2.2.2.2.1 | exact hX.1.1.2.2.2.2.2.1 | exact hX.1.1.2.2.2.2.2.2.1 | exact hX.1.1.2.2.2.2.2.2.2.1 | exact hX.1.1.2.2.2.2.2.2.2.2.1 | exact hX.1.1.2.2.2.2.2.2.2.2.2.1 | exact hX.1.1.2.2.2.2.2.2.2.2.2.2) rfl ?_
        refine V_topi (eH E 2) hH.2.1 ?_
        refine V_iv3 48 dX6_comesByDraws_48 kvX6_104 rfl (by first | exact hX.1.1.1 | exact hX.1.1.2.1 | exact hX.1.1.2.2.1 | exact hX.1.1.2.2.2.1 | exact hX.1.1.2.2.2.2.1 | exact hX.1.1.2.2.2.2.2.1 | exact hX.1.1.2.2.2.2.2.2.1 | exact hX.1.1.2.2.2.2.2.2.2.1 | exact hX.1.1.2.2.2.2.2.2.2.2.1 | exact hX.1.1.2.2.2.2.2.2.2.2.2.1 | exact hX.1.1.2.2.2.2.2.2.2.2.2.2) rfl rfl (c_X6_heads hX i hi hc (fun h M1 hX hI => ?_))
        refine V_goto 51 75 dX6_comesByDraws_51 rfl ?_
        refine V_vret 75 dX6_comesByDraws_75 ?_
        unfold toE at k
        rw [k0, if_pos (hr1 c_r), if_pos c_26] at k
        unfold tcE at k
        first | (rw [if_pos c_38, dl3_of] at k; exact k _ _ (hX.hand _)) | (rw [if_neg c_38, k3, dl3_of] at k; exact k _ _ (hX.hand _))
end M29
