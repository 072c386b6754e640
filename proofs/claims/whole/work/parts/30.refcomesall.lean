/-- what a delivery to contender i needs of the letter in hand -/
def DOK (Q : RG) (E : ET) (i κ : Nat) : Prop := (κ = 3 → eW E = 2 ∧ (eH E 2 = Q.2.1 i → eC E (8 * i) = 1 → eC E (8 * i + 5) + 1 = 2 → eN E ≤ 10)) ∧ ((κ = 4 ∨ κ = 5) → eW E = 3) ∧ (κ = 6 → ¬ eW E = 0 ∧ (eC E (8 * i) = 1 → ∃ p q a b a0 b0, p < 2 ^ 30 ∧ q < 2 ^ 30 ∧ a < 2 ^ 30 ∧ b < 2 ^ 30 ∧ eC E (8 * i + 3) = nI p ∧ eH E 3 = nI q ∧ eC E (8 * i + 2) = nI a ∧ eH E 2 = nI b ∧ a0 < 2 ^ 31 ∧ eC E (8 * i + 7) = nI a0 ∧ 1 ≤ b0 ∧ b0 ≤ 9 ∧ eG E = nI b0))
theorem DOK.out {Q : RG} {E : ET} {i κ : Nat} (h : DOK Q E i κ) (hi : i < 6) : DOK Q (setE E (nI i) 0 2) i κ := by
  obtain ⟨h1, h2, h3⟩ := h
  have e : eC (setE E (nI i) 0 2) (8 * i) = 2 := by
    rw [show (0 : Int32) = nI 0 from rfl, eC_set E hi (by omega)]
    exact pk_us
  have no : ¬ eC (setE E (nI i) 0 2) (8 * i) = 1 := by rw [e]; decide
  refine ⟨fun q => ⟨by rw [eW_set]; exact (h1 q).1, fun _ z => absurd z no⟩, fun q => by rw [eW_set]; exact h2 q, fun q => ⟨by rw [eW_set]; exact (h3 q).1, fun z => absurd z no⟩⟩
section M30
variable {l : Launch} {G : zGT} {h h0 : hpT} {sz : Nat} {Post : Option Value → hpT → Nat → Prop} {m r : Nat} {M M0 : MT} {Q : RG} {E : ET}
set_option maxHeartbeats 1000000 in
set_option maxRecDepth 100000 in
theorem c_X6_comes_t (hX : WX G h0 h m M0 M r E Q) (i : Nat) (hi : i < Q.1) (hH : HD M E) (hc : eN E < 12) {x : Int32} (hln : M.1 10 = 2 * nI i + (x &&& 1)) (han : M.1 11 = 2 * nI i + 1 - (x &&& 1)) (hx0 : eH E 0 = x) (κ : Nat) (hκ : 1 ≤ κ ∧ κ ≤ 7) (hk5 : eH E 1 = nI κ) (hD : DOK Q E i κ) (k : ∀ h M1, WX G h0 h m M0 M1 r (dl3 (goE Q E (nI i)) x (nI i)) Q → Post none h sz) : V l G RX6 cX6_comes 6 none false 5 0 0 Post 34 [some (.ref m), some (.int (nI r)), some (.int (nI i)), some (.int (x &&& 1)), some (.int (eC E (8 * i)))] [] h sz := by
  have hn := hX.2.2.2.2.2.2
  have hr := hX.2.2.2.2.2.1
  have k0 : ∀ (E : ET), celE E (nI i) 0 = eC E (8 * i + 0) := fun E => celE_nI E (k := 0) (by omega) (by omega)
  have k1 : ∀ (E : ET), celE E (nI i) 1 = eC E (8 * i + 1) := fun E => celE_nI E (k := 1) (by omega) (by omega)
  have k2 : ∀ (E : ET), celE E (nI i) 2 = eC E (8 * i + 2) := fun E => celE_nI E (k := 2) (by omega) (by omega)
  have k3 : ∀ (E : ET), celE E (nI i) 3 = eC E (8 * i + 3) := fun E => celE_nI E (k := 3) (by omega) (by omega)
  have k4 : ∀ (E : ET), celE E (nI i) 4 = eC E (8 * i + 4) := fun E => celE_nI E (k := 4) (by omega) (by omega)
  have k5 : ∀ (E : ET), celE E (nI i) 5 = eC E (8 * i + 5) := fun E => celE_nI E (k := 5) (by omega) (by omega)
  have k6 : ∀ (E : ET), celE E (nI i) 6 = eC E (8 * i + 6) := fun E => celE_nI E (k := 6) (by omega) (by omega)
  have k7 : ∀ (E : ET), celE E (nI i) 7 = eC E (8 * i + 7) := fun E => celE_nI E (k := 7) (by omega) (by omega)
  refine V_aload_n 34 dX6_comes_34 rfl ?_
  refine V_get 35 dX6_comes_35 fdX6_85 (by first | exact hX.1.1.1 | exact hX.1.1.2.1 | exact hX.1.1.2.2.1 | exact hX.1.1.2.2.2.1 | exact hX.1.1.2.2.2.2.1 | exact hX.1.1.2.2.2.2.2.1 | exact hX.1.1.2.2.2.2.2.2.1 | exact hX.1.1.2.2.2.2.2.2.2.1 | exact hX.1.1.2.2.2.2.2.2.2.2.1 | exact hX.1.1.2.2.2.2.2.2.2.2.2.1 | exact hX.1.1.2.2.2.2.2.2.2.2.2.2) rfl ?_
  refine V_topi (nI κ) (hH.1.trans hk5) ?_
  refine V_bipushv 38 (7) dX6_comes_38 (by decide) ?_
  refine V_icmp_ne 40 76 dX6_comes_40 rfl (fun c_40 => ?_) (fun c_40 => ?_)
  · have e_40 : ¬ κ = 7 := fun q => c_40 (by rw [q]; rfl)
    refine V_iload 76 dX6_comes_76 rfl ?_
    refine V_iconstv 78 (1) dX6_comes_78 (by decide) ?_
    refine V_icmp_ne 79 86 dX6_comes_79 rfl (fun c_79 => ?_) (fun c_79 => ?_)
    · refine V_iconstv 86 (0) dX6_comes_86 (by decide) ?_
      refine V_istore 87 dX6_comes_87 rfl rfl ?_
      refine V_aload_n 89 dX6_comes_89 rfl ?_
      refine V_get 90 dX6_comes_90 fdX6_85 (by first | exact hX.1.1.1 | exact hX.1.1.2.1 | exact hX.1.1.2.2.1 | exact hX.1.1.2.2.2.1 | exact hX.1.1.2.2.2.2.1 | exact hX.1.1.2.2.2.2.2.1 | exact hX.1.1.2.2.2.2.2.2.1 | exact hX.1.1.2.2.2.2.2.2.2.1 | exact hX.1.1.2.2.2.2.2.2.2.2.1 | exact hX.1.1.2.2.2.2.2.2.2.2.2.1 | exact hX.1.1.2.2.2.2.2.2.2.2.2.2) rfl ?_
      refine V_topi (nI κ) (hH.1.trans hk5) ?_
      refine V_iconstv 93 (1) dX6_comes_93 (by decide) ?_
      refine V_icmp_ne 94 108 dX6_comes_94 rfl (fun c_94 => ?_) (fun c_94 => ?_)
      · have e_94 : ¬ κ = 1 := fun q => c_94 (by rw [q]; rfl)
        refine V_aload_n 108 dX6_comes_108 rfl ?_
        refine V_get 109 dX6_comes_109 fdX6_85 (by first | exact hX.1.1.1 | exact hX.1.1.2.1 | exact hX.1.1.2.2.1 | exact hX.1.1.2.2.2.1 | exact hX.1.1.2.2.2.2.1 | exact hX.1.1.2.2.2.2.2.1 | exact hX.1.1.2.2.2.2.2.2.1 | exact hX.1.1.2.2.2.2.2.2.2.1 | exact hX.1.1.2.2.2.2.2.2.2.2.1 | exact hX.1.1.2.2.2.2.2.2.2.2.2.1 | exact hX.1.1.2.2.2.2.2.2.2.2.2.2) rfl ?_
        refine V_topi (nI κ) (hH.1.trans hk5) ?_
        refine V_iconstv 112 (2) dX6_comes_112 (by decide) ?_
        refine V_icmp_ne 113 127 dX6_comes_113 rfl (fun c_113 => ?_) (fun c_113 => ?_)
        · have e_113 : ¬ κ = 2 := fun q => c_113 (by rw [q]; rfl)
          refine V_aload_n 127 dX6_comes_127 rfl ?_
          refine V_get 128 dX6_comes_128 fdX6_85 (by first | exact hX.1.1.1 | exact hX.1.1.2.1 | exact hX.1.1.2.2.1 | exact hX.1.1.2.2.2.1 | exact hX.1.1.2.2.2.2.1 | exact hX.1.1.2.2.2.2.2.1 | exact hX.1.1.2.2.2.2.2.2.1 | exact hX.1.1.2.2.2.2.2.2.2.1 | exact hX.1.1.2.2.2.2.2.2.2.2.1 | exact hX.1.1.2.2.2.2.2.2.2.2.2.1 | exact hX.1.1.2.2.2.2.2.2.2.2.2.2) rfl ?_
          refine V_topi (nI κ) (hH.1.trans hk5) ?_
          refine V_iconstv 131 (3) dX6_comes_131 (by decide) ?_
          refine V_icmp_ne 132 146 dX6_comes_132 rfl (fun c_132 => ?_) (fun c_132 => ?_)
          · have e_132 : ¬ κ = 3 := fun q => c_132 (by rw [q]; rfl)
            refine V_aload_n 146 dX6_comes_146 rfl ?_
            refine V_get 147 dX6_comes_147 fdX6_85 (by first | exact hX.1.1.1 | exact hX.1.1.2.1 | exact hX.1.1.2.2.1 | exact hX.1.1.2.2.2.1 | exact hX.1.1.2.2.2.2.1 | exact hX.1.1.2.2.2.2.2.1 | exact hX.1.1.2.2.2.2.2.2.1 | exact hX.1.1.2.2.2.2.2.2.2.1 | exact hX.1.1.2.2.2.2.2.2.2.2.1 | exact hX.1.1.2.2.2.2.2.2.2.2.2.1 | exact hX.1.1.2.2.2.2.2.2.2.2.2.2) rfl ?_
            refine V_topi (nI κ) (hH.1.trans hk5) ?_
            refine V_bipushv 150 (6) dX6_comes_150 (by decide) ?_
            refine V_icmp_ne 152 166 dX6_comes_152 rfl (fun c_152 => ?_) (fun c_152 => ?_)
            · have e_152 : ¬ κ = 6 := fun q => c_152 (by rw [q]; rfl)
              refine V_aload_n 166 dX6_comes_166 rfl ?_
              refine V_iload_n 167 dX6_comes_167 rfl ?_
              refine V_iload_n 168 dX6_comes_168 rfl ?_
              refine V_iload 169 dX6_comes_169 rfl ?_
              refine V_iv3 171 dX6_comes_171 kvX6_124 rfl (by first | exact hX.1.1.1 | exact hX.1.1.2.1 | exact hX.1.1.2.2.1 | exact hX.1.1.2.2.2.1 | exact hX.1.1.2.2.2.2.1 | exact hX.1.1.2.2.2.2.2.1 | exact hX.1.1.2.2.2.2.2.2.1 | exact hX.1.1.2.2.2.2.2.2.2.1 | exact hX.1.1.2.2.2.2.2.2.2.2.1 | exact hX.1.1.2.2.2.2.2.2.2.2.2.1 | exact hX.1.1.2.2.2.2.2.2.2.2.2.2) rfl rfl (c_X6_comesByPhases hX i hi _ (by first | exact Or.inl ⟨rfl, c_79⟩ | exact Or.inr ⟨rfl, c_79⟩) hH hc hln κ (by omega) hk5 (hD.2.1 (by omega)) (fun h M1 hX => ?_))
              refine V_vret 174 dX6_comes_174 ?_
              unfold goE at k
              rw [hk5] at k
              first
                | (rw [if_neg (by decide), if_neg (by decide), if_neg (by decide), if_neg (by decide), if_neg (by decide), if_neg (by decide)] at k
                   unfold crE at k
                   rw [dl3_t] at k
                   unfold cr2 cr3 at k
                   rw [eH_set, eH_set, eH_set, hx0] at k
                   exact k _ _ hX)
                | (rw [if_pos (by decide)] at k; exact k _ _ hX)
                | (rw [if_neg (by decide), if_pos (by decide)] at k; exact k _ _ hX)
                | (rw [if_neg (by decide), if_neg (by decide), if_pos (by decide)] at k; exact k _ _ hX)
                | (rw [if_neg (by decide), if_neg (by decide), if_neg (by decide), if_neg (by decide), if_neg (by decide), if_pos (by decide)] at k; exact k _ _ hX)
                | (rw [if_neg c_94, if_neg c_113, if_neg c_132] at k
                   rcases (show κ = 4 ∨ κ = 5 by omega) with q | q
                   · rw [if_pos (by rw [q]; rfl)] at k; exact k _ _ hX
                   · rw [if_neg (by rw [q]; decide), if_pos (by rw [q]; rfl)] at k; exact k _ _ hX)
            · have e_152 : κ = 6 := (nI_eq (b := 6) (by omega) (by decide)).mp c_152
              subst e_152
              refine V_aload_n 155 dX6_comes_155 rfl ?_
              refine V_iload_n 156 dX6_comes_156 rfl ?_
              refine V_iload_n 157 dX6_comes_157 rfl ?_
              refine V_iload 158 dX6_comes_158 rfl ?_
              refine V_iv3 160 dX6_comes_160 kvX6_121 rfl (by first | exact hX.1.1.1 | exact hX.1.1.2.1 | exact hX.1.1.2.2.1 | exact hX.1.1.2.2.2.1 | exact hX.1.1.2.2.2.2.1 | exact hX.1.1.2.2.2.2.2.1 | exact hX.1.1.2.2.2.2.2.2.1 | exact hX.1.1.2.2.2.2.2.2.2.1 | exact hX.1.1.2.2.2.2.2.2.2.2.1 | exact hX.1.1.2.2.2.2.2.2.2.2.2.1 | exact hX.1.1.2.2.2.2.2.2.2.2.2.2) rfl rfl (c_X6_comesByDraws hX i hi _ (by first | exact Or.inl ⟨rfl, c_79⟩ | exact Or.inr ⟨rfl, c_79⟩) hH hc hln hk5 (hD.2.2 rfl).1 (hD.2.2 rfl).2 (fun h M1 hX => ?_))
              refine V_goto 163 174 dX6_comes_163 rfl ?_
              refine V_vret 174 dX6_comes_174 ?_
              unfold goE at k
              rw [hk5] at k
              first
                | (rw [if_neg (by decide), if_neg (by decide), if_neg (by decide), if_neg (by decide), if_neg (by decide), if_neg (by decide)] at k
                   unfold crE at k
                   rw [dl3_t] at k
                   unfold cr2 cr3 at k
                   rw [eH_set, eH_set, eH_set, hx0] at k
                   exact k _ _ hX)
                | (rw [if_pos (by decide)] at k; exact k _ _ hX)
                | (rw [if_neg (by decide), if_pos (by decide)] at k; exact k _ _ hX)
                | (rw [if_neg (by decide), if_neg (by decide), if_pos (by decide)] at k; exact k _ _ hX)
                | (rw [if_neg (by decide), if_neg (by decide), if_neg (by decide), if_neg (by decide), if_neg (by decide), if_pos (by decide)] at k; exact k _ _ hX)
                | (rw [if_neg c_94, if_neg c_113, if_neg c_132] at k
                   rcases (show κ = 4 ∨ κ = 5 by omega) with q | q
                   · rw [if_pos (by rw [q]; rfl)] at k; exact k _ _ hX
                   · rw [if_neg (by rw [q]; decide), if_pos (by rw [q]; rfl)] at k; exact k _ _ hX)
          · have e_132 : κ = 3 := (nI_eq (b := 3) (by omega) (by decide)).mp c_132
            subst e_132
            refine V_aload_n 135 dX6_comes_135 rfl ?_
            refine V_iload_n 136 dX6_comes_136 rfl ?_
            refine V_iload_n 137 dX6_comes_137 rfl ?_
            refine V_iload 138 dX6_comes_138 rfl ?_
            refine V_iv3 140 dX6_comes_140 kvX6_118 rfl (by first | exact hX.1.1.1 | exact hX.1.1.2.1 | exact hX.1.1.2.2.1 | exact hX.1.1.2.2.2.1 | exact hX.1.1.2.2.2.2.1 | exact hX.1.1.2.2.2.2.2.1 | exact hX.1.1.2.2.2.2.2.2.1 | exact hX.1.1.2.2.2.2.2.2.2.1 | exact hX.1.1.2.2.2.2.2.2.2.2.1 | exact hX.1.1.2.2.2.2.2.2.2.2.2.1 | exact hX.1.1.2.2.2.2.2.2.2.2.2.2) rfl rfl (c_X6_comesReply hX i hi _ (by first | exact Or.inl ⟨rfl, c_79⟩ | exact Or.inr ⟨rfl, c_79⟩) hH hc hln hk5 (hD.1 rfl).1 (hD.1 rfl).2 (fun h M1 hX => ?_))
            refine V_goto 143 174 dX6_comes_143 rfl ?_
            refine V_vret 174 dX6_comes_174 ?_
            unfold goE at k
            rw [hk5] at k
            first
              | (rw [if_neg (by decide), if_neg (by decide), if_neg (by decide), if_neg (by decide), if_neg (by decide), if_neg (by decide)] at k
                 unfold crE at k
                 rw [dl3_t] at k
                 unfold cr2 cr3 at k
                 rw [eH_set, eH_set, eH_set, hx0] at k
                 exact k _ _ hX)
              | (rw [if_pos (by decide)] at k; exact k _ _ hX)
              | (rw [if_neg (by decide), if_pos (by decide)] at k; exact k _ _ hX)
              | (rw [if_neg (by decide), if_neg (by decide), if_pos (by decide)] at k; exact k _ _ hX)
              | (rw [if_neg (by decide), if_neg (by decide), if_neg (by decide), if_neg (by decide), if_neg (by decide), if_pos (by decide)] at k; exact k _ _ hX)
              | (rw [if_neg c_94, if_neg c_113, if_neg c_132] at k
                 rcases (show κ = 4 ∨ κ = 5 by omega) with q | q
                 · rw [if_pos (by rw [q]; rfl)] at k; exact k _ _ hX
                 · rw [if_neg (by rw [q]; decide), if_pos (by rw [q]; rfl)] at k; exact k _ _ hX)
        · have e_113 : κ = 2 := (nI_eq (b := 2) (by omega) (by decide)).mp c_113
          subst e_113
          refine V_aload_n 116 dX6_comes_116 rfl ?_
          refine V_iload_n 117 dX6_comes_117 rfl ?_
          refine V_iload_n 118 dX6_comes_118 rfl ?_
          refine V_iload 119 dX6_comes_119 rfl ?_
          refine V_iv3 121 dX6_comes_121 kvX6_115 rfl (by first | exact hX.1.1.1 | exact hX.1.1.2.1 | exact hX.1.1.2.2.1 | exact hX.1.1.2.2.2.1 | exact hX.1.1.2.2.2.2.1 | exact hX.1.1.2.2.2.2.2.1 | exact hX.1.1.2.2.2.2.2.2.1 | exact hX.1.1.2.2.2.2.2.2.2.1 | exact hX.1.1.2.2.2.2.2.2.2.2.1 | exact hX.1.1.2.2.2.2.2.2.2.2.2.1 | exact hX.1.1.2.2.2.2.2.2.2.2.2.2) rfl rfl (c_X6_comesProbe hX i hi _ (by first | exact Or.inl ⟨rfl, c_79⟩ | exact Or.inr ⟨rfl, c_79⟩) hH hc hln han hx0 hk5 (fun h M1 hX => ?_))
          refine V_goto 124 174 dX6_comes_124 rfl ?_
          refine V_vret 174 dX6_comes_174 ?_
          unfold goE at k
          rw [hk5] at k
          first
            | (rw [if_neg (by decide), if_neg (by decide), if_neg (by decide), if_neg (by decide), if_neg (by decide), if_neg (by decide)] at k
               unfold crE at k
               rw [dl3_t] at k
               unfold cr2 cr3 at k
               rw [eH_set, eH_set, eH_set, hx0] at k
               exact k _ _ hX)
            | (rw [if_pos (by decide)] at k; exact k _ _ hX)
            | (rw [if_neg (by decide), if_pos (by decide)] at k; exact k _ _ hX)
            | (rw [if_neg (by decide), if_neg (by decide), if_pos (by decide)] at k; exact k _ _ hX)
            | (rw [if_neg (by decide), if_neg (by decide), if_neg (by decide), if_neg (by decide), if_neg (by decide), if_pos (by decide)] at k; exact k _ _ hX)
            | (rw [if_neg c_94, if_neg c_113, if_neg c_132] at k
               rcases (show κ = 4 ∨ κ = 5 by omega) with q | q
               · rw [if_pos (by rw [q]; rfl)] at k; exact k _ _ hX
               · rw [if_neg (by rw [q]; decide), if_pos (by rw [q]; rfl)] at k; exact k _ _ hX)
      · have e_94 : κ = 1 := (nI_eq (b := 1) (by omega) (by decide)).mp c_94
        subst e_94
        refine V_aload_n 97 dX6_comes_97 rfl ?_
        refine V_iload_n 98 dX6_comes_98 rfl ?_
        refine V_iload_n 99 dX6_comes_99 rfl ?_
        refine V_iload 100 dX6_comes_100 rfl ?_
        refine V_iv3 102 dX6_comes_102 kvX6_111 rfl (by first | exact hX.1.1.1 | exact hX.1.1.2.1 | exact hX.1.1.2.2.1 | exact hX.1.1.2.2.2.1 | exact hX.1.1.2.2.2.2.1 | exact hX.1.1.2.2.2.2.2.1 | exact hX.1.1.2.2.2.2.2.2.1 | exact hX.1.1.2.2.2.2.2.2.2.1 | exact hX.1.1.2.2.2.2.2.2.2.2.1 | exact hX.1.1.2.2.2.2.2.2.2.2.2.1 | exact hX.1.1.2.2.2.2.2.2.2.2.2.2) rfl rfl (c_X6_comesByGreatest hX i hi _ (by first | exact Or.inl ⟨rfl, c_79⟩ | exact Or.inr ⟨rfl, c_79⟩) hH hc hln hk5 (fun h M1 hX => ?_))
        refine V_goto 105 174 dX6_comes_105 rfl ?_
        refine V_vret 174 dX6_comes_174 ?_
        unfold goE at k
        rw [hk5] at k
        first
          | (rw [if_neg (by decide), if_neg (by decide), if_neg (by decide), if_neg (by decide), if_neg (by decide), if_neg (by decide)] at k
             unfold crE at k
             rw [dl3_t] at k
             unfold cr2 cr3 at k
             rw [eH_set, eH_set, eH_set, hx0] at k
             exact k _ _ hX)
          | (rw [if_pos (by decide)] at k; exact k _ _ hX)
          | (rw [if_neg (by decide), if_pos (by decide)] at k; exact k _ _ hX)
          | (rw [if_neg (by decide), if_neg (by decide), if_pos (by decide)] at k; exact k _ _ hX)
          | (rw [if_neg (by decide), if_neg (by decide), if_neg (by decide), if_neg (by decide), if_neg (by decide), if_pos (by decide)] at k; exact k _ _ hX)
          | (rw [if_neg c_94, if_neg c_113, if_neg c_132] at k
             rcases (show κ = 4 ∨ κ = 5 by omega) with q | q
             · rw [if_pos (by rw [q]; rfl)] at k; exact k _ _ hX
             · rw [if_neg (by rw [q]; decide), if_pos (by rw [q]; rfl)] at k; exact k _ _ hX)
    · refine V_iconstv 82 (1) dX6_comes_82 (by decide) ?_
      refine V_goto 83 87 dX6_comes_83 rfl ?_
      refine V_istore 87 dX6_comes_87 rfl rfl ?_
      refine V_aload_n 89 dX6_comes_89 rfl ?_
      refine V_get 90 dX6_comes_90 fdX6_85 (by first | exact hX.1.1.1 | exact hX.1.1.2.1 | exact hX.1.1.2.2.1 | exact hX.1.1.2.2.2.1 | exact hX.1.1.2.2.2.2.1 | exact hX.1.1.2.2.2.2.2.1 | exact hX.1.1.2.2.2.2.2.2.1 | exact hX.1.1.2.2.2.2.2.2.2.1 | exact hX.1.1.2.2.2.2.2.2.2.2.1 | exact hX.1.1.2.2.2.2.2.2.2.2.2.1 | exact hX.1.1.2.2.2.2.2.2.2.2.2.2) rfl ?_
      refine V_topi (nI κ) (hH.1.trans hk5) ?_
      refine V_iconstv 93 (1) dX6_comes_93 (by decide) ?_
      refine V_icmp_ne 94 108 dX6_comes_94 rfl (fun c_94 => ?_) (fun c_94 => ?_)
      · have e_94 : ¬ κ = 1 := fun q => c_94 (by rw [q]; rfl)
        refine V_aload_n 108 dX6_comes_108 rfl ?_
        refine V_get 109 dX6_comes_109 fdX6_85 (by first | exact hX.1.1.1 | exact hX.1.1.2.1 | exact hX.1.1.2.2.1 | exact hX.1.1.2.2.2.1 | exact hX.1.1.2.2.2.2.1 | exact hX.1.1.2.2.2.2.2.1 | exact hX.1.1.2.2.2.2.2.2.1 | exact hX.1.1.2.2.2.2.2.2.2.1 | exact hX.1.1.2.2.2.2.2.2.2.2.1 | exact hX.1.1.2.2.2.2.2.2.2.2.2.1 | exact hX.1.1.2.2.2.2.2.2.2.2.2.2) rfl ?_
        refine V_topi (nI κ) (hH.1.trans hk5) ?_
        refine V_iconstv 112 (2) dX6_comes_112 (by decide) ?_
        refine V_icmp_ne 113 127 dX6_comes_113 rfl (fun c_113 => ?_) (fun c_113 => ?_)
        · have e_113 : ¬ κ = 2 := fun q => c_113 (by rw [q]; rfl)
          refine V_aload_n 127 dX6_comes_127 rfl ?_
          refine V_get 128 dX6_comes_128 fdX6_85 (by first | exact hX.1.1.1 | exact hX.1.1.2.1 | exact hX.1.1.2.2.1 | exact hX.1.1.2.2.2.1 | exact hX.1.1.2.2.2.2.1 | exact hX.1.1.2.2.2.2.2.1 | exact hX.1.1.2.2.2.2.2.2.1 | exact hX.1.1.2.2.2.2.2.2.2.1 | exact hX.1.1.2.2.2.2.2.2.2.2.1 | exact hX.1.1.2.2.2.2.2.2.2.2.2.1 | exact hX.1.1.2.2.2.2.2.2.2.2.2.2) rfl ?_
          refine V_topi (nI κ) (hH.1.trans hk5) ?_
          refine V_iconstv 131 (3) dX6_comes_131 (by decide) ?_
          refine V_icmp_ne 132 146 dX6_comes_132 rfl (fun c_132 => ?_) (fun c_132 => ?_)
          · have e_132 : ¬ κ = 3 := fun q => c_132 (by rw [q]; rfl)
            refine V_aload_n 146 dX6_comes_146 rfl ?_
            refine V_get 147 dX6_comes_147 fdX6_85 (by first | exact hX.1.1.1 | exact hX.1.1.2.1 | exact hX.1.1.2.2.1 | exact hX.1.1.2.2.2.1 | exact hX.1.1.2.2.2.2.1 | exact hX.1.1.2.2.2.2.2.1 | exact hX.1.1.2.2.2.2.2.2.1 | exact hX.1.1.2.2.2.2.2.2.2.1 | exact hX.1.1.2.2.2.2.2.2.2.2.1 | exact hX.1.1.2.2.2.2.2.2.2.2.2.1 | exact hX.1.1.2.2.2.2.2.2.2.2.2.2) rfl ?_
            refine V_topi (nI κ) (hH.1.trans hk5) ?_
            refine V_bipushv 150 (6) dX6_comes_150 (by decide) ?_
            refine V_icmp_ne 152 166 dX6_comes_152 rfl (fun c_152 => ?_) (fun c_152 => ?_)
            · have e_152 : ¬ κ = 6 := fun q => c_152 (by rw [q]; rfl)
              refine V_aload_n 166 dX6_comes_166 rfl ?_
              refine V_iload_n 167 dX6_comes_167 rfl ?_
              refine V_iload_n 168 dX6_comes_168 rfl ?_
              refine V_iload 169 dX6_comes_169 rfl ?_
              refine V_iv3 171 dX6_comes_171 kvX6_124 rfl (by first | exact hX.1.1.1 | exact hX.1.1.2.1 | exact hX.1.1.2.2.1 | exact hX.1.1.2.2.2.1 | exact hX.1.1.2.2.2.2.1 | exact hX.1.1.2.2.2.2.2.1 | exact hX.1.1.2.2.2.2.2.2.1 | exact hX.1.1.2.2.2.2.2.2.2.1 | exact hX.1.1.2.2.2.2.2.2.2.2.1 | exact hX.1.1.2.2.2.2.2.2.2.2.2.1 | exact hX.1.1.2.2.2.2.2.2.2.2.2.2) rfl rfl (c_X6_comesByPhases hX i hi _ (by first | exact Or.inl ⟨rfl, c_79⟩ | exact Or.inr ⟨rfl, c_79⟩) hH hc hln κ (by omega) hk5 (hD.2.1 (by omega)) (fun h M1 hX => ?_))
              refine V_vret 174 dX6_comes_174 ?_
              unfold goE at k
              rw [hk5] at k
              first
                | (rw [if_neg (by decide), if_neg (by decide), if_neg (by decide), if_neg (by decide), if_neg (by decide), if_neg (by decide)] at k
                   unfold crE at k
                   rw [dl3_t] at k
                   unfold cr2 cr3 at k
                   rw [eH_set, eH_set, eH_set, hx0] at k
                   exact k _ _ hX)
                | (rw [if_pos (by decide)] at k; exact k _ _ hX)
                | (rw [if_neg (by decide), if_pos (by decide)] at k; exact k _ _ hX)
                | (rw [if_neg (by decide), if_neg (by decide), if_pos (by decide)] at k; exact k _ _ hX)
                | (rw [if_neg (by decide), if_neg (by decide), if_neg (by decide), if_neg (by decide), if_neg (by decide), if_pos (by decide)] at k; exact k _ _ hX)
                | (rw [if_neg c_94, if_neg c_113, if_neg c_132] at k
                   rcases (show κ = 4 ∨ κ = 5 by omega) with q | q
                   · rw [if_pos (by rw [q]; rfl)] at k; exact k _ _ hX
                   · rw [if_neg (by rw [q]; decide), if_pos (by rw [q]; rfl)] at k; exact k _ _ hX)
            · have e_152 : κ = 6 := (nI_eq (b := 6) (by omega) (by decide)).mp c_152
              subst e_152
              refine V_aload_n 155 dX6_comes_155 rfl ?_
              refine V_iload_n 156 dX6_comes_156 rfl ?_
              refine V_iload_n 157 dX6_comes_157 rfl ?_
              refine V_iload 158 dX6_comes_158 rfl ?_
              refine V_iv3 160 dX6_comes_160 kvX6_121 rfl (by first | exact hX.1.1.1 | exact hX.1.1.2.1 | exact hX.1.1.2.2.1 | exact hX.1.1.2.2.2.1 | exact hX.1.1.2.2.2.2.1 | exact hX.1.1.2.2.2.2.2.1 | exact hX.1.1.2.2.2.2.2.2.1 | exact hX.1.1.2.2.2.2.2.2.2.1 | exact hX.1.1.2.2.2.2.2.2.2.2.1 | exact hX.1.1.2.2.2.2.2.2.2.2.2.1 | exact hX.1.1.2.2.2.2.2.2.2.2.2.2) rfl rfl (c_X6_comesByDraws hX i hi _ (by first | exact Or.inl ⟨rfl, c_79⟩ | exact Or.inr ⟨rfl, c_79⟩) hH hc hln hk5 (hD.2.2 rfl).1 (hD.2.2 rfl).2 (fun h M1 hX => ?_))
              refine V_goto 163 174 dX6_comes_163 rfl ?_
              refine V_vret 174 dX6_comes_174 ?_
              unfold goE at k
              rw [hk5] at k
              first
                | (rw [if_neg (by decide), if_neg (by decide), if_neg (by decide), if_neg (by decide), if_neg (by decide), if_neg (by decide)] at k
                   unfold crE at k
                   rw [dl3_t] at k
                   unfold cr2 cr3 at k
                   rw [eH_set, eH_set, eH_set, hx0] at k
                   exact k _ _ hX)
                | (rw [if_pos (by decide)] at k; exact k _ _ hX)
                | (rw [if_neg (by decide), if_pos (by decide)] at k; exact k _ _ hX)
                | (rw [if_neg (by decide), if_neg (by decide), if_pos (by decide)] at k; exact k _ _ hX)
                | (rw [if_neg (by decide), if_neg (by decide), if_neg (by decide), if_neg (by decide), if_neg (by decide), if_pos (by decide)] at k; exact k _ _ hX)
                | (rw [if_neg c_94, if_neg c_113, if_neg c_132] at k
                   rcases (show κ = 4 ∨ κ = 5 by omega) with q | q
                   · rw [if_pos (by rw [q]; rfl)] at k; exact k _ _ hX
                   · rw [if_neg (by rw [q]; decide), if_pos (by rw [q]; rfl)] at k; exact k _ _ hX)
          · have e_132 : κ = 3 := (nI_eq (b := 3) (by omega) (by decide)).mp c_132
            subst e_132
            refine V_aload_n 135 dX6_comes_135 rfl ?_
            refine V_iload_n 136 dX6_comes_136 rfl ?_
            refine V_iload_n 137 dX6_comes_137 rfl ?_
            refine V_iload 138 dX6_comes_138 rfl ?_
            refine V_iv3 140 dX6_comes_140 kvX6_118 rfl (by first | exact hX.1.1.1 | exact hX.1.1.2.1 | exact hX.1.1.2.2.1 | exact hX.1.1.2.2.2.1 | exact hX.1.1.2.2.2.2.1 | exact hX.1.1.2.2.2.2.2.1 | exact hX.1.1.2.2.2.2.2.2.1 | exact hX.1.1.2.2.2.2.2.2.2.1 | exact hX.1.1.2.2.2.2.2.2.2.2.1 | exact hX.1.1.2.2.2.2.2.2.2.2.2.1 | exact hX.1.1.2.2.2.2.2.2.2.2.2.2) rfl rfl (c_X6_comesReply hX i hi _ (by first | exact Or.inl ⟨rfl, c_79⟩ | exact Or.inr ⟨rfl, c_79⟩) hH hc hln hk5 (hD.1 rfl).1 (hD.1 rfl).2 (fun h M1 hX => ?_))
            refine V_goto 143 174 dX6_comes_143 rfl ?_
            refine V_vret 174 dX6_comes_174 ?_
            unfold goE at k
            rw [hk5] at k
            first
              | (rw [if_neg (by decide), if_neg (by decide), if_neg (by decide), if_neg (by decide), if_neg (by decide), if_neg (by decide)] at k
                 unfold crE at k
                 rw [dl3_t] at k
                 unfold cr2 cr3 at k
                 rw [eH_set, eH_set, eH_set, hx0] at k
                 exact k _ _ hX)
              | (rw [if_pos (by decide)] at k; exact k _ _ hX)
              | (rw [if_neg (by decide), if_pos (by decide)] at k; exact k _ _ hX)
              | (rw [if_neg (by decide), if_neg (by decide), if_pos (by decide)] at k; exact k _ _ hX)
              | (rw [if_neg (by decide), if_neg (by decide), if_neg (by decide), if_neg (by decide), if_neg (by decide), if_pos (by decide)] at k; exact k _ _ hX)
              | (rw [if_neg c_94, if_neg c_113, if_neg c_132] at k
                 rcases (show κ = 4 ∨ κ = 5 by omega) with q | q
                 · rw [if_pos (by rw [q]; rfl)] at k; exact k _ _ hX
                 · rw [if_neg (by rw [q]; decide), if_pos (by rw [q]; rfl)] at k; exact k _ _ hX)
        · have e_113 : κ = 2 := (nI_eq (b := 2) (by omega) (by decide)).mp c_113
          subst e_113
          refine V_aload_n 116 dX6_comes_116 rfl ?_
          refine V_iload_n 117 dX6_comes_117 rfl ?_
          refine V_iload_n 118 dX6_comes_118 rfl ?_
          refine V_iload 119 dX6_comes_119 rfl ?_
          refine V_iv3 121 dX6_comes_121 kvX6_115 rfl (by first | exact hX.1.1.1 | exact hX.1.1.2.1 | exact hX.1.1.2.2.1 | exact hX.1.1.2.2.2.1 | exact hX.1.1.2.2.2.2.1 | exact hX.1.1.2.2.2.2.2.1 | exact hX.1.1.2.2.2.2.2.2.1 | exact hX.1.1.2.2.2.2.2.2.2.1 | exact hX.1.1.2.2.2.2.2.2.2.2.1 | exact hX.1.1.2.2.2.2.2.2.2.2.2.1 | exact hX.1.1.2.2.2.2.2.2.2.2.2.2) rfl rfl (c_X6_comesProbe hX i hi _ (by first | exact Or.inl ⟨rfl, c_79⟩ | exact Or.inr ⟨rfl, c_79⟩) hH hc hln han hx0 hk5 (fun h M1 hX => ?_))
          refine V_goto 124 174 dX6_comes_124 rfl ?_
          refine V_vret 174 dX6_comes_174 ?_
          unfold goE at k
          rw [hk5] at k
          first
            | (rw [if_neg (by decide), if_neg (by decide), if_neg (by decide), if_neg (by decide), if_neg (by decide), if_neg (by decide)] at k
               unfold crE at k
               rw [dl3_t] at k
               unfold cr2 cr3 at k
               rw [eH_set, eH_set, eH_set, hx0] at k
               exact k _ _ hX)
            | (rw [if_pos (by decide)] at k; exact k _ _ hX)
            | (rw [if_neg (by decide), if_pos (by decide)] at k; exact k _ _ hX)
            | (rw [if_neg (by decide), if_neg (by decide), if_pos (by decide)] at k; exact k _ _ hX)
            | (rw [if_neg (by decide), if_neg (by decide), if_neg (by decide), if_neg (by decide), if_neg (by decide), if_pos (by decide)] at k; exact k _ _ hX)
            | (rw [if_neg c_94, if_neg c_113, if_neg c_132] at k
               rcases (show κ = 4 ∨ κ = 5 by omega) with q | q
               · rw [if_pos (by rw [q]; rfl)] at k; exact k _ _ hX
               · rw [if_neg (by rw [q]; decide), if_pos (by rw [q]; rfl)] at k; exact k _ _ hX)
      · have e_94 : κ = 1 := (nI_eq (b := 1) (by omega) (by decide)).mp c_94
        subst e_94
        refine V_aload_n 97 dX6_comes_97 rfl ?_
        refine V_iload_n 98 dX6_comes_98 rfl ?_
        refine V_iload_n 99 dX6_comes_99 rfl ?_
        refine V_iload 100 dX6_comes_100 rfl ?_
        refine V_iv3 102 dX6_comes_102 kvX6_111 rfl (by first | exact hX.1.1.1 | exact hX.1.1.2.1 | exact hX.1.1.2.2.1 | exact hX.1.1.2.2.2.1 | exact hX.1.1.2.2.2.2.1 | exact hX.1.1.2.2.2.2.2.1 | exact hX.1.1.2.2.2.2.2.2.1 | exact hX.1.1.2.2.2.2.2.2.2.1 | exact hX.1.1.2.2.2.2.2.2.2.2.1 | exact hX.1.1.2.2.2.2.2.2.2.2.2.1 | exact hX.1.1.2.2.2.2.2.2.2.2.2.2) rfl rfl (c_X6_comesByGreatest hX i hi _ (by first | exact Or.inl ⟨rfl, c_79⟩ | exact Or.inr ⟨rfl, c_79⟩) hH hc hln hk5 (fun h M1 hX => ?_))
        refine V_goto 105 174 dX6_comes_105 rfl ?_
        refine V_vret 174 dX6_comes_174 ?_
        unfold goE at k
        rw [hk5] at k
        first
          | (rw [if_neg (by decide), if_neg (by decide), if_neg (by decide), if_neg (by decide), if_neg (by decide), if_neg (by decide)] at k
             unfold crE at k
             rw [dl3_t] at k
             unfold cr2 cr3 at k
             rw [eH_set, eH_set, eH_set, hx0] at k
             exact k _ _ hX)
          | (rw [if_pos (by decide)] at k; exact k _ _ hX)
          | (rw [if_neg (by decide), if_pos (by decide)] at k; exact k _ _ hX)
          | (rw [if_neg (by decide), if_neg (by decide), if_pos (by decide)] at k; exact k _ _ hX)
          | (rw [if_neg (by decide), if_neg (by decide), if_neg (by decide), if_neg (by decide), if_neg (by decide), if_pos (by decide)] at k; exact k _ _ hX)
          | (rw [if_neg c_94, if_neg c_113, if_neg c_132] at k
             rcases (show κ = 4 ∨ κ = 5 by omega) with q | q
             · rw [if_pos (by rw [q]; rfl)] at k; exact k _ _ hX
             · rw [if_neg (by rw [q]; decide), if_pos (by rw [q]; rfl)] at k; exact k _ _ hX)
  · have e_40 : κ = 7 := (nI_eq (b := 7) (by omega) (by decide)).mp c_40
    subst e_40
    refine V_aload_n 43 dX6_comes_43 rfl ?_
    refine V_iload_n 44 dX6_comes_44 rfl ?_
    refine V_iload_n 45 dX6_comes_45 rfl ?_
    refine V_iconstv 46 (1) dX6_comes_46 (by decide) ?_
    refine V_iconstv 47 (4) dX6_comes_47 (by decide) ?_
    refine V_iv4 48 dX6_comes_48 kvX6_59 rfl (by first | exact hX.1.1.1 | exact hX.1.1.2.1 | exact hX.1.1.2.2.1 | exact hX.1.1.2.2.2.1 | exact hX.1.1.2.2.2.2.1 | exact hX.1.1.2.2.2.2.2.1 | exact hX.1.1.2.2.2.2.2.2.1 | exact hX.1.1.2.2.2.2.2.2.2.1 | exact hX.1.1.2.2.2.2.2.2.2.2.1 | exact hX.1.1.2.2.2.2.2.2.2.2.2.1 | exact hX.1.1.2.2.2.2.2.2.2.2.2.2) rfl rfl (c_X6_setX hX i 1 hi (by omega) (show RowE _ _ _ (setE _ (nI i) 0 _) from hX.2.2.2.2.1.st hi hn 1 0 (by omega)) (fun h M1 hX hI hrow => ?_))
    replace hH := HD.of hI hH
    replace hln := (congrFun hI 10).trans hln
    replace han := (congrFun hI 11).trans han
    refine V_aload_n 51 dX6_comes_51 rfl ?_
    refine V_iload_n 52 dX6_comes_52 rfl ?_
    refine V_iload_n 53 dX6_comes_53 rfl ?_
    refine V_iconstv 54 (4) dX6_comes_54 (by decide) ?_
    refine V_aload_n 55 dX6_comes_55 rfl ?_
    refine V_get 56 dX6_comes_56 fdX6_88 (by first | exact hX.1.1.1 | exact hX.1.1.2.1 | exact hX.1.1.2.2.1 | exact hX.1.1.2.2.2.1 | exact hX.1.1.2.2.2.2.1 | exact hX.1.1.2.2.2.2.2.1 | exact hX.1.1.2.2.2.2.2.2.1 | exact hX.1.1.2.2.2.2.2.2.2.1 | exact hX.1.1.2.2.2.2.2.2.2.2.1 | exact hX.1.1.2.2.2.2.2.2.2.2.2.1 | exact hX.1.1.2.2.2.2.2.2.2.2.2.2) rfl ?_
    refine V_topi (eH E 2) hH.2.1 ?_
    refine V_iv4 59 dX6_comes_59 kvX6_59 rfl (by first | exact hX.1.1.1 | exact hX.1.1.2.1 | exact hX.1.1.2.2.1 | exact hX.1.1.2.2.2.1 | exact hX.1.1.2.2.2.2.1 | exact hX.1.1.2.2.2.2.2.1 | exact hX.1.1.2.2.2.2.2.2.1 | exact hX.1.1.2.2.2.2.2.2.2.1 | exact hX.1.1.2.2.2.2.2.2.2.2.1 | exact hX.1.1.2.2.2.2.2.2.2.2.2.1 | exact hX.1.1.2.2.2.2.2.2.2.2.2.2) rfl rfl (c_X6_setX hX i 4 hi (by omega) (show RowE _ _ _ (setE _ (nI i) 4 _) from hX.2.2.2.2.1.st hi hn 4 4 (by omega)) (fun h M1 hX hI hrow => ?_))
    replace hH := HD.of hI hH
    replace hln := (congrFun hI 10).trans hln
    replace han := (congrFun hI 11).trans han
    refine V_aload_n 62 dX6_comes_62 rfl ?_
    refine V_iload_n 63 dX6_comes_63 rfl ?_
    refine V_iload_n 64 dX6_comes_64 rfl ?_
    refine V_iconstv 65 (0) dX6_comes_65 (by decide) ?_
    refine V_iload_n 66 dX6_comes_66 rfl ?_
    refine V_iv4 67 dX6_comes_67 kvX6_59 rfl (by first | exact hX.1.1.1 | exact hX.1.1.2.1 | exact hX.1.1.2.2.1 | exact hX.1.1.2.2.2.1 | exact hX.1.1.2.2.2.2.1 | exact hX.1.1.2.2.2.2.2.1 | exact hX.1.1.2.2.2.2.2.2.1 | exact hX.1.1.2.2.2.2.2.2.2.1 | exact hX.1.1.2.2.2.2.2.2.2.2.1 | exact hX.1.1.2.2.2.2.2.2.2.2.2.1 | exact hX.1.1.2.2.2.2.2.2.2.2.2.2) rfl rfl (c_X6_setX hX i 0 hi (by omega) (show RowE _ _ _ (setE _ (nI i) 1 _) from hX.2.2.2.2.1.st hi hn 0 1 (by omega)) (fun h M1 hX hI hrow => ?_))
    replace hH := HD.of hI hH
    replace hln := (congrFun hI 10).trans hln
    replace han := (congrFun hI 11).trans han
    refine V_aload_n 70 dX6_comes_70 rfl ?_
    refine V_iload_n 71 dX6_comes_71 rfl ?_
    refine V_iv1 72 dX6_comes_72 kvX6_100 rfl (by first | exact hX.1.1.1 | exact hX.1.1.2.1 | exact hX.1.1.2.2.1 | exact hX.1.1.2.2.2.1 | exact hX.1.1.2.2.2.2.1 | exact hX.1.1.2.2.2.2.2.1 | exact hX.1.1.2.2.2.2.2.2.1 | exact hX.1.1.2.2.2.2.2.2.2.1 | exact hX.1.1.2.2.2.2.2.2.2.2.1 | exact hX.1.1.2.2.2.2.2.2.2.2.2.1 | exact hX.1.1.2.2.2.2.2.2.2.2.2.2) rfl rfl (c_X6_goesOn hX (((hH.set _ _ _).set _ _ _).set _ _ _) (by rw [eN_set, eN_set, eN_set]; exact hc) 7 (by decide) (by rw [eH_set, eH_set, eH_set]; exact hk5) hln (fun h M1 hX hI => ?_))
    refine V_vret 75 dX6_comes_75 ?_
    unfold goE at k
    rw [hk5] at k
    first
      | (rw [if_neg (by decide), if_neg (by decide), if_neg (by decide), if_neg (by decide), if_neg (by decide), if_neg (by decide)] at k
         unfold crE at k
         rw [dl3_t] at k
         unfold cr2 cr3 at k
         rw [eH_set, eH_set, eH_set, hx0] at k
         exact k _ _ hX)
      | (rw [if_pos (by decide)] at k; exact k _ _ hX)
      | (rw [if_neg (by decide), if_pos (by decide)] at k; exact k _ _ hX)
      | (rw [if_neg (by decide), if_neg (by decide), if_pos (by decide)] at k; exact k _ _ hX)
      | (rw [if_neg (by decide), if_neg (by decide), if_neg (by decide), if_neg (by decide), if_neg (by decide), if_pos (by decide)] at k; exact k _ _ hX)
      | (rw [if_neg c_94, if_neg c_113, if_neg c_132] at k
         rcases (show κ = 4 ∨ κ = 5 by omega) with q | q
         · rw [if_pos (by rw [q]; rfl)] at k; exact k _ _ hX
         · rw [if_neg (by rw [q]; decide), if_pos (by rw [q]; rfl)] at k; exact k _ _ hX)
set_option maxHeartbeats 1000000 in
set_option maxRecDepth 100000 in
theorem c_X6_comes (hX : WX G h0 h m M0 M r E Q) (i : Nat) (hi : i < Q.1) (hH : HD M E) (hc : eN E < 12) {x : Int32} (hln : M.1 10 = 2 * nI i + (x &&& 1)) (han : M.1 11 = 2 * nI i + 1 - (x &&& 1)) (hx0 : eH E 0 = x) (κ : Nat) (hκ : 1 ≤ κ ∧ κ ≤ 7) (hk5 : eH E 1 = nI κ) (hD : DOK Q E i κ) (k : ∀ h M1, WX G h0 h m M0 M1 r (dl1 Q E x (nI i)) Q → Post none h sz) : Cn l G yX6_comes cX6_comes 6 none 5 0 0 [.ref m, .int (nI r), .int (nI i), .int (x &&& 1)] h sz Post := by
  refine Cn.of RX6 false (by decide) rfl (fun q => by cases q) (Nat.le_of_ble_eq_true rfl) ?_
  have hn := hX.2.2.2.2.2.2
  have hr := hX.2.2.2.2.2.1
  have k0 : ∀ (E : ET), celE E (nI i) 0 = eC E (8 * i + 0) := fun E => celE_nI E (k := 0) (by omega) (by omega)
  have k1 : ∀ (E : ET), celE E (nI i) 1 = eC E (8 * i + 1) := fun E => celE_nI E (k := 1) (by omega) (by omega)
  have k2 : ∀ (E : ET), celE E (nI i) 2 = eC E (8 * i + 2) := fun E => celE_nI E (k := 2) (by omega) (by omega)
  have k3 : ∀ (E : ET), celE E (nI i) 3 = eC E (8 * i + 3) := fun E => celE_nI E (k := 3) (by omega) (by omega)
  have k4 : ∀ (E : ET), celE E (nI i) 4 = eC E (8 * i + 4) := fun E => celE_nI E (k := 4) (by omega) (by omega)
  have k5 : ∀ (E : ET), celE E (nI i) 5 = eC E (8 * i + 5) := fun E => celE_nI E (k := 5) (by omega) (by omega)
  have k6 : ∀ (E : ET), celE E (nI i) 6 = eC E (8 * i + 6) := fun E => celE_nI E (k := 6) (by omega) (by omega)
  have k7 : ∀ (E : ET), celE E (nI i) 7 = eC E (8 * i + 7) := fun E => celE_nI E (k := 7) (by omega) (by omega)
  have s0 : eC (setE E (nI i) 0 2) (8 * i) = 2 := by
    rw [show (0 : Int32) = nI 0 from rfl, eC_set E (by omega) (by omega)]
    exact pk_us
  refine V_aload_n 0 dX6_comes_0 rfl ?_
  refine V_iload_n 1 dX6_comes_1 rfl ?_
  refine V_iload_n 2 dX6_comes_2 rfl ?_
  refine V_iconstv 3 (1) dX6_comes_3 (by decide) ?_
  refine V_iv3 4 dX6_comes_4 kvX6_56 rfl (by first | exact hX.1.1.1 | exact hX.1.1.2.1 | exact hX.1.1.2.2.1 | exact hX.1.1.2.2.2.1 | exact hX.1.1.2.2.2.2.1 | exact hX.1.1.2.2.2.2.2.1 | exact hX.1.1.2.2.2.2.2.2.1 | exact hX.1.1.2.2.2.2.2.2.2.1 | exact hX.1.1.2.2.2.2.2.2.2.2.1 | exact hX.1.1.2.2.2.2.2.2.2.2.2.1 | exact hX.1.1.2.2.2.2.2.2.2.2.2.2) rfl rfl (c_X6_has hX.1 r i 1 (by unfold ctA; have := hX.2.2.2.2.2; omega) ?_)
  refine V_topi (eC E (8 * i)) ((hX.2.2.2.2.1.2.2.2.2.1 i hi).2.1) ?_
  refine V_if_ne 7 18 dX6_comes_7 rfl (fun c_7 => ?_) (fun c_7 => ?_)
  · have e_7 : ¬ eC E (8 * i + 0) = 0 := c_7
    refine V_aload_n 18 dX6_comes_18 rfl ?_
    refine V_iload_n 19 dX6_comes_19 rfl ?_
    refine V_iload_n 20 dX6_comes_20 rfl ?_
    refine V_iconstv 21 (1) dX6_comes_21 (by decide) ?_
    refine V_iv3 22 dX6_comes_22 kvX6_56 rfl (by first | exact hX.1.1.1 | exact hX.1.1.2.1 | exact hX.1.1.2.2.1 | exact hX.1.1.2.2.2.1 | exact hX.1.1.2.2.2.2.1 | exact hX.1.1.2.2.2.2.2.1 | exact hX.1.1.2.2.2.2.2.2.1 | exact hX.1.1.2.2.2.2.2.2.2.1 | exact hX.1.1.2.2.2.2.2.2.2.2.1 | exact hX.1.1.2.2.2.2.2.2.2.2.2.1 | exact hX.1.1.2.2.2.2.2.2.2.2.2.2) rfl rfl (c_X6_has hX.1 r i 1 (by unfold ctA; have := hX.2.2.2.2.2; omega) ?_)
    refine V_topi (eC _ (8 * i)) ((hX.2.2.2.2.1.2.2.2.2.1 i hi).2.1) ?_
    refine V_istore 25 dX6_comes_25 rfl rfl ?_
    refine V_iload 27 dX6_comes_27 rfl ?_
    refine V_iconstv 29 (3) dX6_comes_29 (by decide) ?_
    refine V_icmp_ne 30 34 dX6_comes_30 rfl (fun c_30 => ?_) (fun c_30 => ?_)
    · have e_30 : ¬ eC _ (8 * i + 0) = 3 := c_30
      first
        | (refine c_X6_comes_t hX i hi hH hc hln han hx0 κ hκ hk5 hD (fun h M1 hX => ?_)
           unfold dl1 at k
           rw [k0, if_neg e_7] at k
           unfold dl2 at k
           rw [k0, if_neg e_30] at k
           exact k _ _ hX)
        | (refine c_X6_comes_t hX i hi (hH.set _ _ _) (by rw [eN_set]; exact hc) hln han (by rw [eH_set]; exact hx0) κ hκ (by rw [eH_set]; exact hk5) (hD.out (by omega)) (fun h M1 hX => ?_)
           unfold dl1 at k
           rw [k0, if_pos e_7] at k
           unfold dl2 at k
           rw [k0, if_neg e_30] at k
           exact k _ _ hX)
    · have e_30 : eC _ (8 * i + 0) = 3 := c_30
      refine V_vret 33 dX6_comes_33 ?_
      unfold dl1 at k
      rw [k0] at k
      first
        | (rw [if_pos e_7] at k; exact absurd (s0.symm.trans c_30) (by decide))
        | (rw [if_neg e_7] at k; unfold dl2 at k; rw [k0, if_pos e_30] at k; exact k _ _ hX)
  · have e_7 : eC E (8 * i + 0) = 0 := c_7
    refine V_aload_n 10 dX6_comes_10 rfl ?_
    refine V_iload_n 11 dX6_comes_11 rfl ?_
    refine V_iload_n 12 dX6_comes_12 rfl ?_
    refine V_iconstv 13 (1) dX6_comes_13 (by decide) ?_
    refine V_iconstv 14 (2) dX6_comes_14 (by decide) ?_
    refine V_iv4 15 dX6_comes_15 kvX6_59 rfl (by first | exact hX.1.1.1 | exact hX.1.1.2.1 | exact hX.1.1.2.2.1 | exact hX.1.1.2.2.2.1 | exact hX.1.1.2.2.2.2.1 | exact hX.1.1.2.2.2.2.2.1 | exact hX.1.1.2.2.2.2.2.2.1 | exact hX.1.1.2.2.2.2.2.2.2.1 | exact hX.1.1.2.2.2.2.2.2.2.2.1 | exact hX.1.1.2.2.2.2.2.2.2.2.2.1 | exact hX.1.1.2.2.2.2.2.2.2.2.2.2) rfl rfl (c_X6_setX hX i 1 hi (by omega) (show RowE _ _ _ (setE _ (nI i) 0 _) from hX.2.2.2.2.1.st hi hn 1 0 (by omega)) (fun h M1 hX hI hrow => ?_))
    replace hH := HD.of hI hH
    replace hln := (congrFun hI 10).trans hln
    replace han := (congrFun hI 11).trans han
    refine V_aload_n 18 dX6_comes_18 rfl ?_
    refine V_iload_n 19 dX6_comes_19 rfl ?_
    refine V_iload_n 20 dX6_comes_20 rfl ?_
    refine V_iconstv 21 (1) dX6_comes_21 (by decide) ?_
    refine V_iv3 22 dX6_comes_22 kvX6_56 rfl (by first | exact hX.1.1.1 | exact hX.1.1.2.1 | exact hX.1.1.2.2.1 | exact hX.1.1.2.2.2.1 | exact hX.1.1.2.2.2.2.1 | exact hX.1.1.2.2.2.2.2.1 | exact hX.1.1.2.2.2.2.2.2.1 | exact hX.1.1.2.2.2.2.2.2.2.1 | exact hX.1.1.2.2.2.2.2.2.2.2.1 | exact hX.1.1.2.2.2.2.2.2.2.2.2.1 | exact hX.1.1.2.2.2.2.2.2.2.2.2.2) rfl rfl (c_X6_has hX.1 r i 1 (by unfold ctA; have := hX.2.2.2.2.2; omega) ?_)
    refine V_topi (eC _ (8 * i)) ((hX.2.2.2.2.1.2.2.2.2.1 i hi).2.1) ?_
    refine V_istore 25 dX6_comes_25 rfl rfl ?_
    refine V_iload 27 dX6_comes_27 rfl ?_
    refine V_iconstv 29 (3) dX6_comes_29 (by decide) ?_
    refine V_icmp_ne 30 34 dX6_comes_30 rfl (fun c_30 => ?_) (fun c_30 => ?_)
    · have e_30 : ¬ eC _ (8 * i + 0) = 3 := c_30
      first
        | (refine c_X6_comes_t hX i hi hH hc hln han hx0 κ hκ hk5 hD (fun h M1 hX => ?_)
           unfold dl1 at k
           rw [k0, if_neg e_7] at k
           unfold dl2 at k
           rw [k0, if_neg e_30] at k
           exact k _ _ hX)
        | (refine c_X6_comes_t hX i hi (hH.set _ _ _) (by rw [eN_set]; exact hc) hln han (by rw [eH_set]; exact hx0) κ hκ (by rw [eH_set]; exact hk5) (hD.out (by omega)) (fun h M1 hX => ?_)
           unfold dl1 at k
           rw [k0, if_pos e_7] at k
           unfold dl2 at k
           rw [k0, if_neg e_30] at k
           exact k _ _ hX)
    · have e_30 : eC _ (8 * i + 0) = 3 := c_30
      refine V_vret 33 dX6_comes_33 ?_
      unfold dl1 at k
      rw [k0] at k
      first
        | (rw [if_pos e_7] at k; exact absurd (s0.symm.trans c_30) (by decide))
        | (rw [if_neg e_7] at k; unfold dl2 at k; rw [k0, if_pos e_30] at k; exact k _ _ hX)
end M30
