theorem MA.fr {G : zGT} {h h1 : hpT} {m a n : Nat} {M : MT} (hM : MA G h m M) (hF : Fr a n h h1) (hd : a + n ≤ m ∨ m + 11 ≤ a) : MA G h1 m M := by
  obtain ⟨e0, e1, e2, e3, e4, e5, e6, e7, e8, e9, e10⟩ := hM
  exact ⟨by rw [hF _ (by omega)]; exact e0, by rw [hF _ (by omega)]; exact e1, by rw [hF _ (by omega)]; exact e2, by rw [hF _ (by omega)]; exact e3, by rw [hF _ (by omega)]; exact e4, by rw [hF _ (by omega)]; exact e5, by rw [hF _ (by omega)]; exact e6, by rw [hF _ (by omega)]; exact e7, by rw [hF _ (by omega)]; exact e8, by rw [hF _ (by omega)]; exact e9, by rw [hF _ (by omega)]; exact e10⟩
theorem MA.lo {G : zGT} {h h1 : hpT} {m sz : Nat} {M : MT} (hM : MA G h m M) (hL : ∀ q, q < sz → h1 q = h q) (hd : m + 10 < sz) : MA G h1 m M := by
  obtain ⟨e0, e1, e2, e3, e4, e5, e6, e7, e8, e9, e10⟩ := hM
  exact ⟨by rw [hL _ (by omega)]; exact e0, by rw [hL _ (by omega)]; exact e1, by rw [hL _ (by omega)]; exact e2, by rw [hL _ (by omega)]; exact e3, by rw [hL _ (by omega)]; exact e4, by rw [hL _ (by omega)]; exact e5, by rw [hL _ (by omega)]; exact e6, by rw [hL _ (by omega)]; exact e7, by rw [hL _ (by omega)]; exact e8, by rw [hL _ (by omega)]; exact e9, by rw [hL _ (by omega)]; exact e10⟩
theorem CA.lo {G : zGT} {h h1 : hpT} {x sz nx hs : Nat} {X : TX} {Qp Qd : RG} {En Et : ET} {K : Nat → ET} {S : FT × (Nat → ET)} (hC : CA G h x X Qp Qd En Et nx hs K S) (hL : ∀ q, q < sz → h1 q = h q) (hd : x + 138 ≤ sz) : CA G h1 x X Qp Qd En Et nx hs K S := by
  obtain ⟨c1, c2, c3, c4, c5, c6, c7, c8⟩ := hC
  have hF : FrP (fun a => sz ≤ a) h h1 := fun a ha => hL a (by omega)
  exact ⟨by rw [hL _ (by omega)]; exact c1, c2.frP hF (fun a h1 h2 q => by omega), c3.frP hF (fun a h1 h2 q => by omega), c4.frP hF (fun a h1 h2 q => by omega), c5.frP hF (fun a h1 h2 q => by omega), c6.frP hF (fun a h1 h2 q => by omega), c7.frP hF (fun a h1 h2 q => by omega), c8.frP hF (fun a h1 h2 q => by omega)⟩
theorem REL.kf {B : Nat} {X : TX} {Q : RG} {E E0 : ET} {nx hs n0 : Nat} {K : Nat → ET} {M : MT} {f : Nat → Int32} (h : REL B X Q E nx hs (va_up K n0 (eH' E0 f)) M) (g : Nat → Int32) : REL B X Q E nx hs (va_up K n0 (eH' E0 g)) M := by
  obtain ⟨t, gr, a, b, c, d, e, i⟩ := h
  have k1 : ∀ j, j = n0 → va_up K n0 (eH' E0 f) j = eH' E0 f := fun j hj => by rw [hj, va_up_self]
  have k2 : ∀ j, j = n0 → va_up K n0 (eH' E0 g) j = eH' E0 g := fun j hj => by rw [hj, va_up_self]
  have k3 : ∀ j, ¬ j = n0 → va_up K n0 (eH' E0 f) j = va_up K n0 (eH' E0 g) j := fun j hj => by rw [va_up_ne _ _ hj, va_up_ne _ _ hj]
  refine ⟨t, gr, a, b, c, d, fun z hz => ?_, i.elim Or.inl (fun q => Or.inr ⟨q.1, fun z hz => ?_⟩)⟩
  · by_cases w : kA nx z = n0
    · have := e z hz
      rw [k1 _ w] at this
      rw [k2 _ w]
      exact this
    · rw [← k3 _ w]
      exact e z hz
  · by_cases w : kA nx z = n0
    · have := q.2 z hz
      rw [k1 _ w] at this
      rw [k2 _ w]
      exact this
    · rw [← k3 _ w]
      exact q.2 z hz
theorem REL.hf {B : Nat} {X : TX} {Q : RG} {E : ET} {nx hs : Nat} {K : Nat → ET} {M : MT} {f : Nat → Int32} (h : REL B X Q (eH' E f) nx hs K M) (g : Nat → Int32) : REL B X Q (eH' E g) nx hs K M := by
  obtain ⟨t, gr, a, b, c, d, e, i⟩ := h
  exact ⟨t, gr, a, b, c, d, e, i⟩
theorem ch_d {x : Int32} {d : Nat} (h : x = nI d) (h1 : 1 ≤ d) (h3 : d ≤ 3) : 1 ≤ x ∧ x ≤ 3 := by
  subst h
  exact ⟨nI_le (a := 1) h1 (by omega), nI_le (b := 3) h3 (by decide)⟩
theorem ch_k {x : Int32} {d : Nat} (h : x = nI d) (h3 : d ≤ 4) : 0 ≤ x ∧ x ≤ 4 := by
  subst h
  exact ⟨nI_le (a := 0) (Nat.zero_le _) (by omega), nI_le (b := 4) h3 (by decide)⟩
section M51
variable {z : Nat × Nat × (Nat → Int32)} {l : Launch} {G : zGT} {Post : Option Value → hpT → Nat → Prop} {h : hpT} {sz x B nx hs n I : Nat} {X : TX} {Q Qd : RG} {E Et : ET} {K : Nat → ET} {S : FT × (Nat → ET)} {M : MT}
set_option maxHeartbeats 1000000 in
set_option maxRecDepth 100000 in
theorem law_write (hC : CA G h x X Q Qd E Et nx hs K S) (hMA : MA G h (x + 138) M) (hR : REL B X Q E nx hs K M) (hB : 1 ≤ B ∧ B < 2 ^ 28) (hI : I + 5 ≤ z.2.1) (hL : z.2.1 ≤ 2560) (kn : ∀ (h : hpT) (sz B1 : Nat) (X : TX) (Q Qd : RG) (E Et : ET) (nx hs : Nat) (K : Nat → ET) (S : FT × (Nat → ET)) (M : MT), 1 ≤ B1 → B1 ≤ B + 300 → CA G h x X Q Qd E Et nx hs K S → MA G h (x + 138) M → REL B1 X Q E nx hs K M → VS z l G RL cL_law 4 (some .boolean) false 11 (5 * n) (30 * n) Post 608 [some (.ref z.1), some (.ref x), some (.ref (x + 138)), some (.int (nI I))] [] h sz) : VS z l G RL cL_law 4 (some .boolean) false 11 (5 * n + 5) (30 * n + 30) Post 116 [some (.ref z.1), some (.ref x), some (.ref (x + 138)), some (.int (nI I))] [] h sz := by
  refine VS_aload_n 116 dL_law_116 rfl ?_
  refine VS_aload_n 117 dL_law_117 rfl ?_
  refine VS_iload_n 118 dL_law_118 rfl ?_
  refine VS_iconstv 119 (1) dL_law_119 (by decide) ?_
  refine VS_iadd 120 dL_law_120 ?_
  refine VS_topi (nI (I + 1)) (nI_add I 1) ?_
  refine VS_sld 121 (I + 1) (nI_clamp (by omega)) dL_law_121 (vp_in_nI (by omega) (by omega)) ?_
  refine VS_iv1 122 dL_law_122 kvL_13 rfl hC.1 rfl rfl (c_X5_write hC (fun a0 => ?_) (fun a1 a2 => ?_) (fun a1 a2 h1 hC1 hF => ?_))
  · refine VS_aload_n 125 dL_law_125 rfl ?_
    refine VS_aload_n 126 dL_law_126 rfl ?_
    refine VS_iload_n 127 dL_law_127 rfl ?_
    refine VS_iconstv 128 (1) dL_law_128 (by decide) ?_
    refine VS_iadd 129 dL_law_129 ?_
    refine VS_topi (nI (I + 1)) (nI_add I 1) ?_
    refine VS_sld 130 (I + 1) (nI_clamp (by omega)) dL_law_130 (vp_in_nI (by omega) (by omega)) ?_
    refine VS_iv1 131 dL_law_131 kvL_17 rfl hMA.1 rfl rfl (c_X6_write ⟨hMA, Fr.rf⟩ hR (fun _ => ?_) (fun q _ => absurd q a0) (fun q _ => absurd q a0))
    refine VS_icmp_eq 134 608 dL_law_134 rfl (fun _ => ?_) (fun q => absurd rfl q)
    exact VS_bud (by omega) (by omega) (kn _ _ _ _ _ _ _ _ _ _ _ _ _ (by omega) (by omega) hC hMA hR)
  · refine VS_aload_n 125 dL_law_125 rfl ?_
    refine VS_aload_n 126 dL_law_126 rfl ?_
    refine VS_iload_n 127 dL_law_127 rfl ?_
    refine VS_iconstv 128 (1) dL_law_128 (by decide) ?_
    refine VS_iadd 129 dL_law_129 ?_
    refine VS_topi (nI (I + 1)) (nI_add I 1) ?_
    refine VS_sld 130 (I + 1) (nI_clamp (by omega)) dL_law_130 (vp_in_nI (by omega) (by omega)) ?_
    refine VS_iv1 131 dL_law_131 kvL_17 rfl hMA.1 rfl rfl (c_X6_write ⟨hMA, Fr.rf⟩ hR (fun q => absurd a1 q) (fun _ _ => ?_) (fun _ q => absurd q a2))
    refine VS_icmp_eq 134 608 dL_law_134 rfl (fun _ => ?_) (fun q => absurd rfl q)
    exact VS_bud (by omega) (by omega) (kn _ _ _ _ _ _ _ _ _ _ _ _ _ (by omega) (by omega) hC hMA hR)
  · refine VS_aload_n 125 dL_law_125 rfl ?_
    refine VS_aload_n 126 dL_law_126 rfl ?_
    refine VS_iload_n 127 dL_law_127 rfl ?_
    refine VS_iconstv 128 (1) dL_law_128 (by decide) ?_
    refine VS_iadd 129 dL_law_129 ?_
    refine VS_topi (nI (I + 1)) (nI_add I 1) ?_
    refine VS_sld 130 (I + 1) (nI_clamp (by omega)) dL_law_130 (vp_in_nI (by omega) (by omega)) ?_
    replace hMA := hMA.fr hF (Or.inl (Nat.le_refl _))
    replace hC := hC1
    refine VS_iv1 131 dL_law_131 kvL_17 rfl hMA.1 rfl rfl (c_X6_write ⟨hMA, Fr.rf⟩ hR (fun q => absurd a1 q) (fun _ q => absurd a2 q) (fun _ _ h2 M1 hM2 hR2 => ?_))
    replace hC := hC.frO hM2.2 (Or.inr (Nat.le_refl _))
    replace hMA := hM2.1
    replace hR := hR2
    refine VS_icmp_eq 134 608 dL_law_134 rfl (fun _ => ?_) (fun q => absurd rfl q)
    exact VS_bud (by omega) (by omega) (kn _ _ _ _ _ _ _ _ _ _ _ _ _ (by omega) (by omega) hC hMA hR)
set_option maxHeartbeats 1000000 in
set_option maxRecDepth 100000 in
theorem law_ring (hC : CA G h x X Q Qd E Et nx hs K S) (hMA : MA G h (x + 138) M) (hR : REL B X Q E nx hs K M) (hB : 1 ≤ B ∧ B < 2 ^ 28) (hI : I + 5 ≤ z.2.1) (hL : z.2.1 ≤ 2560) (kn : ∀ (h : hpT) (sz B1 : Nat) (X : TX) (Q Qd : RG) (E Et : ET) (nx hs : Nat) (K : Nat → ET) (S : FT × (Nat → ET)) (M : MT), 1 ≤ B1 → B1 ≤ B + 300 → CA G h x X Q Qd E Et nx hs K S → MA G h (x + 138) M → REL B1 X Q E nx hs K M → VS z l G RL cL_law 4 (some .boolean) false 11 (5 * n) (30 * n) Post 608 [some (.ref z.1), some (.ref x), some (.ref (x + 138)), some (.int (nI I))] [] h sz) : VS z l G RL cL_law 4 (some .boolean) false 11 (5 * n + 5) (30 * n + 30) Post 139 [some (.ref z.1), some (.ref x), some (.ref (x + 138)), some (.int (nI I))] [] h sz := by
  refine VS_aload_n 139 dL_law_139 rfl ?_
  refine VS_iv0 140 dL_law_140 kvL_18 rfl hC.1 rfl rfl (c_X5_ring hC (fun a0 h1 hC1 hF => ?_) (fun a1 h1 hC1 hF => ?_))
  · refine VS_aload_n 143 dL_law_143 rfl ?_
    replace hMA := hMA.fr hF (Or.inl (Nat.le_refl _))
    replace hC := hC1
    refine VS_iv0 144 dL_law_144 kvL_22 rfl hMA.1 rfl rfl (c_X6_ring (q := Qd.2) ⟨hMA, Fr.rf⟩ hR (fun _ h2 M1 hM2 hR2 => ?_) (fun q => absurd q a0))
    replace hC := hC.frO hM2.2 (Or.inr (Nat.le_refl _))
    replace hMA := hM2.1
    replace hR := hR2
    refine VS_icmp_eq 147 608 dL_law_147 rfl (fun _ => ?_) (fun q => absurd rfl q)
    exact VS_bud (by omega) (by omega) (kn _ _ _ _ _ _ _ _ _ _ _ _ _ (by omega) (by omega) hC hMA hR)
  · refine VS_aload_n 143 dL_law_143 rfl ?_
    replace hMA := hMA.fr hF (Or.inl (Nat.le_refl _))
    replace hC := hC1
    refine VS_iv0 144 dL_law_144 kvL_22 rfl hMA.1 rfl rfl (c_X6_ring (q := Qd.2) ⟨hMA, Fr.rf⟩ hR (fun q => absurd a1 q) (fun _ h2 M1 hM2 hR2 => ?_))
    replace hC := hC.frO hM2.2 (Or.inr (Nat.le_refl _))
    replace hMA := hM2.1
    replace hR := hR2
    refine VS_icmp_eq 147 608 dL_law_147 rfl (fun _ => ?_) (fun q => absurd rfl q)
    exact VS_bud (by omega) (by omega) (kn _ _ _ _ _ _ _ _ _ _ _ _ _ (by omega) (by omega) hC hMA hR)
set_option maxHeartbeats 1000000 in
set_option maxRecDepth 100000 in
theorem law_fault (hC : CA G h x X Q Qd E Et nx hs K S) (hMA : MA G h (x + 138) M) (hR : REL B X Q E nx hs K M) (hB : 1 ≤ B ∧ B < 2 ^ 28) (hI : I + 5 ≤ z.2.1) (hL : z.2.1 ≤ 2560) (kn : ∀ (h : hpT) (sz B1 : Nat) (X : TX) (Q Qd : RG) (E Et : ET) (nx hs : Nat) (K : Nat → ET) (S : FT × (Nat → ET)) (M : MT), 1 ≤ B1 → B1 ≤ B + 300 → CA G h x X Q Qd E Et nx hs K S → MA G h (x + 138) M → REL B1 X Q E nx hs K M → VS z l G RL cL_law 4 (some .boolean) false 11 (5 * n) (30 * n) Post 608 [some (.ref z.1), some (.ref x), some (.ref (x + 138)), some (.int (nI I))] [] h sz) : VS z l G RL cL_law 4 (some .boolean) false 11 (5 * n + 5) (30 * n + 30) Post 152 [some (.ref z.1), some (.ref x), some (.ref (x + 138)), some (.int (nI I))] [] h sz := by
  refine VS_aload_n 152 dL_law_152 rfl ?_
  refine VS_iv0 153 dL_law_153 kvL_23 rfl hC.1 rfl rfl (c_X5_fault hC ?_)
  · refine VS_aload_n 156 dL_law_156 rfl ?_
    refine VS_iv0 157 dL_law_157 kvL_26 rfl hMA.1 rfl rfl (c_X6_fault ⟨hMA, Fr.rf⟩ hR ?_)
    refine VS_icmp_eq 160 608 dL_law_160 rfl (fun _ => ?_) (fun q => absurd rfl q)
    exact VS_bud (by omega) (by omega) (kn _ _ _ _ _ _ _ _ _ _ _ _ _ (by omega) (by omega) hC hMA hR)
set_option maxHeartbeats 1000000 in
set_option maxRecDepth 100000 in
theorem law_begin (hC : CA G h x X Q Qd E Et nx hs K S) (hMA : MA G h (x + 138) M) (hR : REL B X Q E nx hs K M) (hB : 1 ≤ B ∧ B < 2 ^ 28) (hI : I + 5 ≤ z.2.1) (hL : z.2.1 ≤ 2560) (kn : ∀ (h : hpT) (sz B1 : Nat) (X : TX) (Q Qd : RG) (E Et : ET) (nx hs : Nat) (K : Nat → ET) (S : FT × (Nat → ET)) (M : MT), 1 ≤ B1 → B1 ≤ B + 300 → CA G h x X Q Qd E Et nx hs K S → MA G h (x + 138) M → REL B1 X Q E nx hs K M → VS z l G RL cL_law 4 (some .boolean) false 11 (5 * n) (30 * n) Post 608 [some (.ref z.1), some (.ref x), some (.ref (x + 138)), some (.int (nI I))] [] h sz) : VS z l G RL cL_law 4 (some .boolean) false 11 (5 * n + 5) (30 * n + 30) Post 165 [some (.ref z.1), some (.ref x), some (.ref (x + 138)), some (.int (nI I))] [] h sz := by
  refine VS_aload_n 165 dL_law_165 rfl ?_
  refine VS_aload_n 166 dL_law_166 rfl ?_
  refine VS_iload_n 167 dL_law_167 rfl ?_
  refine VS_iconstv 168 (1) dL_law_168 (by decide) ?_
  refine VS_iadd 169 dL_law_169 ?_
  refine VS_topi (nI (I + 1)) (nI_add I 1) ?_
  refine VS_sld 170 (I + 1) (nI_clamp (by omega)) dL_law_170 (vp_in_nI (by omega) (by omega)) ?_
  refine VS_aload_n 171 dL_law_171 rfl ?_
  refine VS_iload_n 172 dL_law_172 rfl ?_
  refine VS_iconstv 173 (2) dL_law_173 (by decide) ?_
  refine VS_iadd 174 dL_law_174 ?_
  refine VS_topi (nI (I + 2)) (nI_add I 2) ?_
  refine VS_sld 175 (I + 2) (nI_clamp (by omega)) dL_law_175 (vp_in_nI (by omega) (by omega)) ?_
  refine VS_aload_n 176 dL_law_176 rfl ?_
  refine VS_iload_n 177 dL_law_177 rfl ?_
  refine VS_iconstv 178 (3) dL_law_178 (by decide) ?_
  refine VS_iadd 179 dL_law_179 ?_
  refine VS_topi (nI (I + 3)) (nI_add I 3) ?_
  refine VS_sld 180 (I + 3) (nI_clamp (by omega)) dL_law_180 (vp_in_nI (by omega) (by omega)) ?_
  refine VS_iv3 181 dL_law_181 kvL_27 rfl hC.1 rfl rfl (c_X5_begin hC (fun a0 => ?_) (fun a1 a2 => ?_) (fun a1 a2 h1 hC1 hF => ?_))
  · refine VS_aload_n 184 dL_law_184 rfl ?_
    refine VS_aload_n 185 dL_law_185 rfl ?_
    refine VS_iload_n 186 dL_law_186 rfl ?_
    refine VS_iconstv 187 (1) dL_law_187 (by decide) ?_
    refine VS_iadd 188 dL_law_188 ?_
    refine VS_topi (nI (I + 1)) (nI_add I 1) ?_
    refine VS_sld 189 (I + 1) (nI_clamp (by omega)) dL_law_189 (vp_in_nI (by omega) (by omega)) ?_
    refine VS_aload_n 190 dL_law_190 rfl ?_
    refine VS_iload_n 191 dL_law_191 rfl ?_
    refine VS_iconstv 192 (2) dL_law_192 (by decide) ?_
    refine VS_iadd 193 dL_law_193 ?_
    refine VS_topi (nI (I + 2)) (nI_add I 2) ?_
    refine VS_sld 194 (I + 2) (nI_clamp (by omega)) dL_law_194 (vp_in_nI (by omega) (by omega)) ?_
    refine VS_aload_n 195 dL_law_195 rfl ?_
    refine VS_iload_n 196 dL_law_196 rfl ?_
    refine VS_iconstv 197 (3) dL_law_197 (by decide) ?_
    refine VS_iadd 198 dL_law_198 ?_
    refine VS_topi (nI (I + 3)) (nI_add I 3) ?_
    refine VS_sld 199 (I + 3) (nI_clamp (by omega)) dL_law_199 (vp_in_nI (by omega) (by omega)) ?_
    refine VS_iv3 200 dL_law_200 kvL_31 rfl hMA.1 rfl rfl (c_X6_begin ⟨hMA, Fr.rf⟩ hR (fun _ => ?_) (fun q _ => absurd q a0) (fun q _ => absurd q a0))
    refine VS_icmp_eq 203 608 dL_law_203 rfl (fun _ => ?_) (fun q => absurd rfl q)
    exact VS_bud (by omega) (by omega) (kn _ _ _ _ _ _ _ _ _ _ _ _ _ (by omega) (by omega) hC hMA hR)
  · refine VS_aload_n 184 dL_law_184 rfl ?_
    refine VS_aload_n 185 dL_law_185 rfl ?_
    refine VS_iload_n 186 dL_law_186 rfl ?_
    refine VS_iconstv 187 (1) dL_law_187 (by decide) ?_
    refine VS_iadd 188 dL_law_188 ?_
    refine VS_topi (nI (I + 1)) (nI_add I 1) ?_
    refine VS_sld 189 (I + 1) (nI_clamp (by omega)) dL_law_189 (vp_in_nI (by omega) (by omega)) ?_
    refine VS_aload_n 190 dL_law_190 rfl ?_
    refine VS_iload_n 191 dL_law_191 rfl ?_
    refine VS_iconstv 192 (2) dL_law_192 (by decide) ?_
    refine VS_iadd 193 dL_law_193 ?_
    refine VS_topi (nI (I + 2)) (nI_add I 2) ?_
    refine VS_sld 194 (I + 2) (nI_clamp (by omega)) dL_law_194 (vp_in_nI (by omega) (by omega)) ?_
    refine VS_aload_n 195 dL_law_195 rfl ?_
    refine VS_iload_n 196 dL_law_196 rfl ?_
    refine VS_iconstv 197 (3) dL_law_197 (by decide) ?_
    refine VS_iadd 198 dL_law_198 ?_
    refine VS_topi (nI (I + 3)) (nI_add I 3) ?_
    refine VS_sld 199 (I + 3) (nI_clamp (by omega)) dL_law_199 (vp_in_nI (by omega) (by omega)) ?_
    refine VS_iv3 200 dL_law_200 kvL_31 rfl hMA.1 rfl rfl (c_X6_begin ⟨hMA, Fr.rf⟩ hR (fun q => absurd a1 q) (fun _ _ => ?_) (fun _ q => absurd q a2))
    refine VS_icmp_eq 203 608 dL_law_203 rfl (fun _ => ?_) (fun q => absurd rfl q)
    exact VS_bud (by omega) (by omega) (kn _ _ _ _ _ _ _ _ _ _ _ _ _ (by omega) (by omega) hC hMA hR)
  · refine VS_aload_n 184 dL_law_184 rfl ?_
    refine VS_aload_n 185 dL_law_185 rfl ?_
    refine VS_iload_n 186 dL_law_186 rfl ?_
    refine VS_iconstv 187 (1) dL_law_187 (by decide) ?_
    refine VS_iadd 188 dL_law_188 ?_
    refine VS_topi (nI (I + 1)) (nI_add I 1) ?_
    refine VS_sld 189 (I + 1) (nI_clamp (by omega)) dL_law_189 (vp_in_nI (by omega) (by omega)) ?_
    refine VS_aload_n 190 dL_law_190 rfl ?_
    refine VS_iload_n 191 dL_law_191 rfl ?_
    refine VS_iconstv 192 (2) dL_law_192 (by decide) ?_
    refine VS_iadd 193 dL_law_193 ?_
    refine VS_topi (nI (I + 2)) (nI_add I 2) ?_
    refine VS_sld 194 (I + 2) (nI_clamp (by omega)) dL_law_194 (vp_in_nI (by omega) (by omega)) ?_
    refine VS_aload_n 195 dL_law_195 rfl ?_
    refine VS_iload_n 196 dL_law_196 rfl ?_
    refine VS_iconstv 197 (3) dL_law_197 (by decide) ?_
    refine VS_iadd 198 dL_law_198 ?_
    refine VS_topi (nI (I + 3)) (nI_add I 3) ?_
    refine VS_sld 199 (I + 3) (nI_clamp (by omega)) dL_law_199 (vp_in_nI (by omega) (by omega)) ?_
    replace hMA := hMA.fr hF (Or.inl (Nat.le_refl _))
    replace hC := hC1
    refine VS_iv3 200 dL_law_200 kvL_31 rfl hMA.1 rfl rfl (c_X6_begin ⟨hMA, Fr.rf⟩ hR (fun q => absurd a1 q) (fun _ q => absurd a2 q) (fun _ _ h2 M1 hM2 hR2 => ?_))
    replace hC := hC.frO hM2.2 (Or.inr (Nat.le_refl _))
    replace hMA := hM2.1
    replace hR := hR2
    refine VS_icmp_eq 203 608 dL_law_203 rfl (fun _ => ?_) (fun q => absurd rfl q)
    exact VS_bud (by omega) (by omega) (kn _ _ _ _ _ _ _ _ _ _ _ _ _ (by omega) (by omega) hC hMA hR)
set_option maxHeartbeats 1000000 in
set_option maxRecDepth 100000 in
theorem law_wake (hC : CA G h x X Q Qd E Et nx hs K S) (hMA : MA G h (x + 138) M) (hR : REL B X Q E nx hs K M) (hB : 1 ≤ B ∧ B < 2 ^ 28) (hI : I + 5 ≤ z.2.1) (hL : z.2.1 ≤ 2560) (kn : ∀ (h : hpT) (sz B1 : Nat) (X : TX) (Q Qd : RG) (E Et : ET) (nx hs : Nat) (K : Nat → ET) (S : FT × (Nat → ET)) (M : MT), 1 ≤ B1 → B1 ≤ B + 300 → CA G h x X Q Qd E Et nx hs K S → MA G h (x + 138) M → REL B1 X Q E nx hs K M → VS z l G RL cL_law 4 (some .boolean) false 11 (5 * n) (30 * n) Post 608 [some (.ref z.1), some (.ref x), some (.ref (x + 138)), some (.int (nI I))] [] h sz) : VS z l G RL cL_law 4 (some .boolean) false 11 (5 * n + 5) (30 * n + 30) Post 208 [some (.ref z.1), some (.ref x), some (.ref (x + 138)), some (.int (nI I))] [] h sz := by
  refine VS_aload_n 208 dL_law_208 rfl ?_
  refine VS_aload_n 209 dL_law_209 rfl ?_
  refine VS_iload_n 210 dL_law_210 rfl ?_
  refine VS_iconstv 211 (1) dL_law_211 (by decide) ?_
  refine VS_iadd 212 dL_law_212 ?_
  refine VS_topi (nI (I + 1)) (nI_add I 1) ?_
  refine VS_sld 213 (I + 1) (nI_clamp (by omega)) dL_law_213 (vp_in_nI (by omega) (by omega)) ?_
  refine VS_iv1 214 dL_law_214 kvL_32 rfl hC.1 rfl rfl (c_X5_wake hC (fun a0 => ?_) (fun a1 a2 => ?_) (fun a1 a2 a3 h1 hC1 hF => ?_))
  · refine VS_aload_n 217 dL_law_217 rfl ?_
    refine VS_aload_n 218 dL_law_218 rfl ?_
    refine VS_iload_n 219 dL_law_219 rfl ?_
    refine VS_iconstv 220 (1) dL_law_220 (by decide) ?_
    refine VS_iadd 221 dL_law_221 ?_
    refine VS_topi (nI (I + 1)) (nI_add I 1) ?_
    refine VS_sld 222 (I + 1) (nI_clamp (by omega)) dL_law_222 (vp_in_nI (by omega) (by omega)) ?_
    refine VS_iv1 223 dL_law_223 kvL_35 rfl hMA.1 rfl rfl (c_X6_wake ⟨hMA, Fr.rf⟩ hR hB.1 (fun _ => ?_) (fun q _ => absurd (q.symm.trans a0) (by decide)) (fun q _ _ => absurd (q.symm.trans a0) (by decide)))
    refine VS_icmp_eq 226 608 dL_law_226 rfl (fun _ => ?_) (fun q => absurd rfl q)
    exact VS_bud (by omega) (by omega) (kn _ _ _ _ _ _ _ _ _ _ _ _ _ (by omega) (by omega) hC hMA hR)
  · refine VS_aload_n 217 dL_law_217 rfl ?_
    refine VS_aload_n 218 dL_law_218 rfl ?_
    refine VS_iload_n 219 dL_law_219 rfl ?_
    refine VS_iconstv 220 (1) dL_law_220 (by decide) ?_
    refine VS_iadd 221 dL_law_221 ?_
    refine VS_topi (nI (I + 1)) (nI_add I 1) ?_
    refine VS_sld 222 (I + 1) (nI_clamp (by omega)) dL_law_222 (vp_in_nI (by omega) (by omega)) ?_
    refine VS_iv1 223 dL_law_223 kvL_35 rfl hMA.1 rfl rfl (c_X6_wake ⟨hMA, Fr.rf⟩ hR hB.1 (fun q => absurd (a1.symm.trans q) (by decide)) (fun _ _ => ?_) (fun _ q1 q2 => absurd ⟨q1, q2⟩ a2))
    refine VS_icmp_eq 226 608 dL_law_226 rfl (fun _ => ?_) (fun q => absurd rfl q)
    exact VS_bud (by omega) (by omega) (kn _ _ _ _ _ _ _ _ _ _ _ _ _ (by omega) (by omega) hC hMA hR)
  · refine VS_aload_n 217 dL_law_217 rfl ?_
    refine VS_aload_n 218 dL_law_218 rfl ?_
    refine VS_iload_n 219 dL_law_219 rfl ?_
    refine VS_iconstv 220 (1) dL_law_220 (by decide) ?_
    refine VS_iadd 221 dL_law_221 ?_
    refine VS_topi (nI (I + 1)) (nI_add I 1) ?_
    refine VS_sld 222 (I + 1) (nI_clamp (by omega)) dL_law_222 (vp_in_nI (by omega) (by omega)) ?_
    replace hMA := hMA.fr hF (Or.inl (Nat.le_refl _))
    replace hC := hC1
    refine VS_iv1 223 dL_law_223 kvL_35 rfl hMA.1 rfl rfl (c_X6_wake ⟨hMA, Fr.rf⟩ hR hB.1 (fun q => absurd (a1.symm.trans q) (by decide)) (fun _ q => absurd ⟨a2, a3⟩ q) (fun _ _ _ f h2 M1 hM2 hR2 => ?_))
    replace hR2 := hR2.kf (eH (K nx))
    replace hC := hC.frO hM2.2 (Or.inr (Nat.le_refl _))
    replace hMA := hM2.1
    replace hR := hR2
    refine VS_icmp_eq 226 608 dL_law_226 rfl (fun _ => ?_) (fun q => absurd rfl q)
    exact VS_bud (by omega) (by omega) (kn _ _ _ _ _ _ _ _ _ _ _ _ _ (by omega) (by omega) hC hMA hR)
set_option maxHeartbeats 1000000 in
set_option maxRecDepth 100000 in
theorem law_deliver (hC : CA G h x X Q Qd E Et nx hs K S) (hMA : MA G h (x + 138) M) (hR : REL B X Q E nx hs K M) (hB : 1 ≤ B ∧ B < 2 ^ 28) (hI : I + 5 ≤ z.2.1) (hL : z.2.1 ≤ 2560) (kn : ∀ (h : hpT) (sz B1 : Nat) (X : TX) (Q Qd : RG) (E Et : ET) (nx hs : Nat) (K : Nat → ET) (S : FT × (Nat → ET)) (M : MT), 1 ≤ B1 → B1 ≤ B + 300 → CA G h x X Q Qd E Et nx hs K S → MA G h (x + 138) M → REL B1 X Q E nx hs K M → VS z l G RL cL_law 4 (some .boolean) false 11 (5 * n) (30 * n) Post 608 [some (.ref z.1), some (.ref x), some (.ref (x + 138)), some (.int (nI I))] [] h sz) : VS z l G RL cL_law 4 (some .boolean) false 11 (5 * n + 5) (30 * n + 30) Post 231 [some (.ref z.1), some (.ref x), some (.ref (x + 138)), some (.int (nI I))] [] h sz := by
  refine VS_aload_n 231 dL_law_231 rfl ?_
  refine VS_aload_n 232 dL_law_232 rfl ?_
  refine VS_iload_n 233 dL_law_233 rfl ?_
  refine VS_iconstv 234 (1) dL_law_234 (by decide) ?_
  refine VS_iadd 235 dL_law_235 ?_
  refine VS_topi (nI (I + 1)) (nI_add I 1) ?_
  refine VS_sld 236 (I + 1) (nI_clamp (by omega)) dL_law_236 (vp_in_nI (by omega) (by omega)) ?_
  refine VS_iv1 237 dL_law_237 kvL_36 rfl hC.1 rfl rfl (c_X5_deliver hC (fun a0 => ?_) (fun a1 a2 => ?_) (fun a1 a2 h1 hC1 hF => ?_))
  · refine VS_aload_n 240 dL_law_240 rfl ?_
    refine VS_aload_n 241 dL_law_241 rfl ?_
    refine VS_iload_n 242 dL_law_242 rfl ?_
    refine VS_iconstv 243 (1) dL_law_243 (by decide) ?_
    refine VS_iadd 244 dL_law_244 ?_
    refine VS_topi (nI (I + 1)) (nI_add I 1) ?_
    refine VS_sld 245 (I + 1) (nI_clamp (by omega)) dL_law_245 (vp_in_nI (by omega) (by omega)) ?_
    refine VS_iv1 246 dL_law_246 kvL_39 rfl hMA.1 rfl rfl (c_X6_deliver ⟨hMA, Fr.rf⟩ hR (by omega) (fun _ => ?_) (fun q _ => absurd (q.symm.trans a0) (by decide)) (fun q _ => absurd (q.symm.trans a0) (by decide)))
    refine VS_icmp_eq 249 608 dL_law_249 rfl (fun _ => ?_) (fun q => absurd rfl q)
    exact VS_bud (by omega) (by omega) (kn _ _ _ _ _ _ _ _ _ _ _ _ _ (by omega) (by omega) hC hMA hR)
  · refine VS_aload_n 240 dL_law_240 rfl ?_
    refine VS_aload_n 241 dL_law_241 rfl ?_
    refine VS_iload_n 242 dL_law_242 rfl ?_
    refine VS_iconstv 243 (1) dL_law_243 (by decide) ?_
    refine VS_iadd 244 dL_law_244 ?_
    refine VS_topi (nI (I + 1)) (nI_add I 1) ?_
    refine VS_sld 245 (I + 1) (nI_clamp (by omega)) dL_law_245 (vp_in_nI (by omega) (by omega)) ?_
    refine VS_iv1 246 dL_law_246 kvL_39 rfl hMA.1 rfl rfl (c_X6_deliver ⟨hMA, Fr.rf⟩ hR (by omega) (fun q => absurd (a1.symm.trans q) (by decide)) (fun _ _ => ?_) (fun _ q => absurd (q.symm.trans a2) (by decide)))
    refine VS_icmp_eq 249 608 dL_law_249 rfl (fun _ => ?_) (fun q => absurd rfl q)
    exact VS_bud (by omega) (by omega) (kn _ _ _ _ _ _ _ _ _ _ _ _ _ (by omega) (by omega) hC hMA hR)
  · refine VS_aload_n 240 dL_law_240 rfl ?_
    refine VS_aload_n 241 dL_law_241 rfl ?_
    refine VS_iload_n 242 dL_law_242 rfl ?_
    refine VS_iconstv 243 (1) dL_law_243 (by decide) ?_
    refine VS_iadd 244 dL_law_244 ?_
    refine VS_topi (nI (I + 1)) (nI_add I 1) ?_
    refine VS_sld 245 (I + 1) (nI_clamp (by omega)) dL_law_245 (vp_in_nI (by omega) (by omega)) ?_
    replace hMA := hMA.fr hF (Or.inl (Nat.le_refl _))
    replace hC := hC1
    refine VS_iv1 246 dL_law_246 kvL_39 rfl hMA.1 rfl rfl (c_X6_deliver ⟨hMA, Fr.rf⟩ hR (by omega) (fun q => absurd (a1.symm.trans q) (by decide)) (fun _ q => absurd (a2.symm.trans q) (by decide)) (fun _ _ f h2 M1 hM2 hR2 => ?_))
    replace hR2 := hR2.kf (eH (K nx))
    replace hC := hC.frO hM2.2 (Or.inr (Nat.le_refl _))
    replace hMA := hM2.1
    replace hR := hR2
    refine VS_icmp_eq 249 608 dL_law_249 rfl (fun _ => ?_) (fun q => absurd rfl q)
    exact VS_bud (by omega) (by omega) (kn _ _ _ _ _ _ _ _ _ _ _ _ _ (by omega) (by omega) hC hMA hR)
set_option maxHeartbeats 1000000 in
set_option maxRecDepth 100000 in
theorem law_run (hC : CA G h x X Q Qd E Et nx hs K S) (hMA : MA G h (x + 138) M) (hR : REL B X Q E nx hs K M) (hB : 1 ≤ B ∧ B < 2 ^ 28) (hI : I + 5 ≤ z.2.1) (hL : z.2.1 ≤ 2560) (kn : ∀ (h : hpT) (sz B1 : Nat) (X : TX) (Q Qd : RG) (E Et : ET) (nx hs : Nat) (K : Nat → ET) (S : FT × (Nat → ET)) (M : MT), 1 ≤ B1 → B1 ≤ B + 300 → CA G h x X Q Qd E Et nx hs K S → MA G h (x + 138) M → REL B1 X Q E nx hs K M → VS z l G RL cL_law 4 (some .boolean) false 11 (5 * n) (30 * n) Post 608 [some (.ref z.1), some (.ref x), some (.ref (x + 138)), some (.int (nI I))] [] h sz) : VS z l G RL cL_law 4 (some .boolean) false 11 (5 * n + 5) (30 * n + 30) Post 254 [some (.ref z.1), some (.ref x), some (.ref (x + 138)), some (.int (nI I))] [] h sz := by
  refine VS_aload_n 254 dL_law_254 rfl ?_
  refine VS_aload_n 255 dL_law_255 rfl ?_
  refine VS_iload_n 256 dL_law_256 rfl ?_
  refine VS_iconstv 257 (1) dL_law_257 (by decide) ?_
  refine VS_iadd 258 dL_law_258 ?_
  refine VS_topi (nI (I + 1)) (nI_add I 1) ?_
  refine VS_sld 259 (I + 1) (nI_clamp (by omega)) dL_law_259 (vp_in_nI (by omega) (by omega)) ?_
  refine VS_aload_n 260 dL_law_260 rfl ?_
  refine VS_iload_n 261 dL_law_261 rfl ?_
  refine VS_iconstv 262 (2) dL_law_262 (by decide) ?_
  refine VS_iadd 263 dL_law_263 ?_
  refine VS_topi (nI (I + 2)) (nI_add I 2) ?_
  refine VS_sld 264 (I + 2) (nI_clamp (by omega)) dL_law_264 (vp_in_nI (by omega) (by omega)) ?_
  refine VS_aload_n 265 dL_law_265 rfl ?_
  refine VS_iload_n 266 dL_law_266 rfl ?_
  refine VS_iconstv 267 (3) dL_law_267 (by decide) ?_
  refine VS_iadd 268 dL_law_268 ?_
  refine VS_topi (nI (I + 3)) (nI_add I 3) ?_
  refine VS_sld 269 (I + 3) (nI_clamp (by omega)) dL_law_269 (vp_in_nI (by omega) (by omega)) ?_
  refine VS_iv3 270 dL_law_270 kvL_40 rfl hC.1 rfl rfl (c_X5_run hC (fun a0 => ?_) (fun a1 a2 => ?_) (fun a1 a2 a3 => ?_) (fun a1 a2 a3 N aN N1 N2 h1 hC1 hF => ?_))
  · refine VS_aload_n 273 dL_law_273 rfl ?_
    refine VS_aload_n 274 dL_law_274 rfl ?_
    refine VS_iload_n 275 dL_law_275 rfl ?_
    refine VS_iconstv 276 (1) dL_law_276 (by decide) ?_
    refine VS_iadd 277 dL_law_277 ?_
    refine VS_topi (nI (I + 1)) (nI_add I 1) ?_
    refine VS_sld 278 (I + 1) (nI_clamp (by omega)) dL_law_278 (vp_in_nI (by omega) (by omega)) ?_
    refine VS_aload_n 279 dL_law_279 rfl ?_
    refine VS_iload_n 280 dL_law_280 rfl ?_
    refine VS_iconstv 281 (2) dL_law_281 (by decide) ?_
    refine VS_iadd 282 dL_law_282 ?_
    refine VS_topi (nI (I + 2)) (nI_add I 2) ?_
    refine VS_sld 283 (I + 2) (nI_clamp (by omega)) dL_law_283 (vp_in_nI (by omega) (by omega)) ?_
    refine VS_aload_n 284 dL_law_284 rfl ?_
    refine VS_iload_n 285 dL_law_285 rfl ?_
    refine VS_iconstv 286 (3) dL_law_286 (by decide) ?_
    refine VS_iadd 287 dL_law_287 ?_
    refine VS_topi (nI (I + 3)) (nI_add I 3) ?_
    refine VS_sld 288 (I + 3) (nI_clamp (by omega)) dL_law_288 (vp_in_nI (by omega) (by omega)) ?_
    refine VS_iv3 289 dL_law_289 kvL_43 rfl hMA.1 rfl rfl (c_X6_run ⟨hMA, Fr.rf⟩ hR hB.2 (fun _ => ?_) (fun q _ => absurd q a0) (fun q _ _ => absurd q a0) (fun q _ _ => absurd q a0))
    refine VS_icmp_eq 292 608 dL_law_292 rfl (fun _ => ?_) (fun q => absurd rfl q)
    exact VS_bud (by omega) (by omega) (kn _ _ _ _ _ _ _ _ _ _ _ _ _ (by omega) (by omega) hC hMA hR)
  · refine VS_aload_n 273 dL_law_273 rfl ?_
    refine VS_aload_n 274 dL_law_274 rfl ?_
    refine VS_iload_n 275 dL_law_275 rfl ?_
    refine VS_iconstv 276 (1) dL_law_276 (by decide) ?_
    refine VS_iadd 277 dL_law_277 ?_
    refine VS_topi (nI (I + 1)) (nI_add I 1) ?_
    refine VS_sld 278 (I + 1) (nI_clamp (by omega)) dL_law_278 (vp_in_nI (by omega) (by omega)) ?_
    refine VS_aload_n 279 dL_law_279 rfl ?_
    refine VS_iload_n 280 dL_law_280 rfl ?_
    refine VS_iconstv 281 (2) dL_law_281 (by decide) ?_
    refine VS_iadd 282 dL_law_282 ?_
    refine VS_topi (nI (I + 2)) (nI_add I 2) ?_
    refine VS_sld 283 (I + 2) (nI_clamp (by omega)) dL_law_283 (vp_in_nI (by omega) (by omega)) ?_
    refine VS_aload_n 284 dL_law_284 rfl ?_
    refine VS_iload_n 285 dL_law_285 rfl ?_
    refine VS_iconstv 286 (3) dL_law_286 (by decide) ?_
    refine VS_iadd 287 dL_law_287 ?_
    refine VS_topi (nI (I + 3)) (nI_add I 3) ?_
    refine VS_sld 288 (I + 3) (nI_clamp (by omega)) dL_law_288 (vp_in_nI (by omega) (by omega)) ?_
    refine VS_iv3 289 dL_law_289 kvL_43 rfl hMA.1 rfl rfl (c_X6_run ⟨hMA, Fr.rf⟩ hR hB.2 (fun q => absurd a1 q) (fun _ _ => ?_) (fun _ q => absurd a2 q) (fun _ q => absurd a2 q))
    refine VS_icmp_eq 292 608 dL_law_292 rfl (fun _ => ?_) (fun q => absurd rfl q)
    exact VS_bud (by omega) (by omega) (kn _ _ _ _ _ _ _ _ _ _ _ _ _ (by omega) (by omega) hC hMA hR)
  · refine VS_aload_n 273 dL_law_273 rfl ?_
    refine VS_aload_n 274 dL_law_274 rfl ?_
    refine VS_iload_n 275 dL_law_275 rfl ?_
    refine VS_iconstv 276 (1) dL_law_276 (by decide) ?_
    refine VS_iadd 277 dL_law_277 ?_
    refine VS_topi (nI (I + 1)) (nI_add I 1) ?_
    refine VS_sld 278 (I + 1) (nI_clamp (by omega)) dL_law_278 (vp_in_nI (by omega) (by omega)) ?_
    refine VS_aload_n 279 dL_law_279 rfl ?_
    refine VS_iload_n 280 dL_law_280 rfl ?_
    refine VS_iconstv 281 (2) dL_law_281 (by decide) ?_
    refine VS_iadd 282 dL_law_282 ?_
    refine VS_topi (nI (I + 2)) (nI_add I 2) ?_
    refine VS_sld 283 (I + 2) (nI_clamp (by omega)) dL_law_283 (vp_in_nI (by omega) (by omega)) ?_
    refine VS_aload_n 284 dL_law_284 rfl ?_
    refine VS_iload_n 285 dL_law_285 rfl ?_
    refine VS_iconstv 286 (3) dL_law_286 (by decide) ?_
    refine VS_iadd 287 dL_law_287 ?_
    refine VS_topi (nI (I + 3)) (nI_add I 3) ?_
    refine VS_sld 288 (I + 3) (nI_clamp (by omega)) dL_law_288 (vp_in_nI (by omega) (by omega)) ?_
    refine VS_iv3 289 dL_law_289 kvL_43 rfl hMA.1 rfl rfl (c_X6_run ⟨hMA, Fr.rf⟩ hR hB.2 (fun q => absurd a1 q) (fun _ q => absurd q a2) (fun _ _ _ h2 M1 hM2 hR2 => ?_) (fun _ _ q N bN b1 b2 => absurd (a3.resolve_right q) (by rw [bN]; exact nI_ne0 (by omega) (by omega))))
    replace hC := hC.frO hM2.2 (Or.inr (Nat.le_refl _))
    replace hMA := hM2.1
    replace hR := hR2
    refine VS_icmp_eq 292 608 dL_law_292 rfl (fun _ => ?_) (fun q => absurd rfl q)
    exact VS_bud (by omega) (by omega) (kn _ _ _ _ _ _ _ _ _ _ _ _ _ (by omega) (by omega) hC hMA hR)
  · refine VS_aload_n 273 dL_law_273 rfl ?_
    refine VS_aload_n 274 dL_law_274 rfl ?_
    refine VS_iload_n 275 dL_law_275 rfl ?_
    refine VS_iconstv 276 (1) dL_law_276 (by decide) ?_
    refine VS_iadd 277 dL_law_277 ?_
    refine VS_topi (nI (I + 1)) (nI_add I 1) ?_
    refine VS_sld 278 (I + 1) (nI_clamp (by omega)) dL_law_278 (vp_in_nI (by omega) (by omega)) ?_
    refine VS_aload_n 279 dL_law_279 rfl ?_
    refine VS_iload_n 280 dL_law_280 rfl ?_
    refine VS_iconstv 281 (2) dL_law_281 (by decide) ?_
    refine VS_iadd 282 dL_law_282 ?_
    refine VS_topi (nI (I + 2)) (nI_add I 2) ?_
    refine VS_sld 283 (I + 2) (nI_clamp (by omega)) dL_law_283 (vp_in_nI (by omega) (by omega)) ?_
    refine VS_aload_n 284 dL_law_284 rfl ?_
    refine VS_iload_n 285 dL_law_285 rfl ?_
    refine VS_iconstv 286 (3) dL_law_286 (by decide) ?_
    refine VS_iadd 287 dL_law_287 ?_
    refine VS_topi (nI (I + 3)) (nI_add I 3) ?_
    refine VS_sld 288 (I + 3) (nI_clamp (by omega)) dL_law_288 (vp_in_nI (by omega) (by omega)) ?_
    replace hMA := hMA.fr hF (Or.inl (Nat.le_refl _))
    replace hC := hC1
    refine VS_iv3 289 dL_law_289 kvL_43 rfl hMA.1 rfl rfl (c_X6_run ⟨hMA, Fr.rf⟩ hR hB.2 (fun q => absurd a1 q) (fun _ q => absurd q a2) (fun _ _ q => absurd (q.resolve_right a3) (by rw [aN]; exact nI_ne0 (by omega) (by omega))) (fun _ _ _ N3 bN b1 b2 f h2 M1 hM2 hR2 => ?_))
    obtain rfl : N3 = N := (nI_eq (by omega) (by omega)).mp (bN.symm.trans aN)
    replace hR2 := hR2.kf (eH (K nx))
    replace hC := hC.frO hM2.2 (Or.inr (Nat.le_refl _))
    replace hMA := hM2.1
    replace hR := hR2
    refine VS_icmp_eq 292 608 dL_law_292 rfl (fun _ => ?_) (fun q => absurd rfl q)
    exact VS_bud (by omega) (by omega) (kn _ _ _ _ _ _ _ _ _ _ _ _ _ (by omega) (by omega) hC hMA hR)
set_option maxHeartbeats 1000000 in
set_option maxRecDepth 100000 in
theorem law_undo (hC : CA G h x X Q Qd E Et nx hs K S) (hMA : MA G h (x + 138) M) (hR : REL B X Q E nx hs K M) (hB : 1 ≤ B ∧ B < 2 ^ 28) (hI : I + 5 ≤ z.2.1) (hL : z.2.1 ≤ 2560) (kn : ∀ (h : hpT) (sz B1 : Nat) (X : TX) (Q Qd : RG) (E Et : ET) (nx hs : Nat) (K : Nat → ET) (S : FT × (Nat → ET)) (M : MT), 1 ≤ B1 → B1 ≤ B + 300 → CA G h x X Q Qd E Et nx hs K S → MA G h (x + 138) M → REL B1 X Q E nx hs K M → VS z l G RL cL_law 4 (some .boolean) false 11 (5 * n) (30 * n) Post 608 [some (.ref z.1), some (.ref x), some (.ref (x + 138)), some (.int (nI I))] [] h sz) : VS z l G RL cL_law 4 (some .boolean) false 11 (5 * n + 5) (30 * n + 30) Post 297 [some (.ref z.1), some (.ref x), some (.ref (x + 138)), some (.int (nI I))] [] h sz := by
  refine VS_aload_n 297 dL_law_297 rfl ?_
  refine VS_iv0 298 dL_law_298 kvL_44 rfl hC.1 rfl rfl (c_X5_undo hC (fun a0 => ?_) (fun a1 h1 hC1 hF => ?_))
  · refine VS_aload_n 301 dL_law_301 rfl ?_
    refine VS_iv0 302 dL_law_302 kvL_47 rfl hMA.1 rfl rfl (c_X6_undo ⟨hMA, Fr.rf⟩ hR (fun _ => ?_) (fun q => absurd a0 q))
    refine VS_icmp_eq 305 608 dL_law_305 rfl (fun _ => ?_) (fun q => absurd rfl q)
    exact VS_bud (by omega) (by omega) (kn _ _ _ _ _ _ _ _ _ _ _ _ _ (by omega) (by omega) hC hMA hR)
  · refine VS_aload_n 301 dL_law_301 rfl ?_
    replace hMA := hMA.fr hF (Or.inl (Nat.le_refl _))
    replace hC := hC1
    refine VS_iv0 302 dL_law_302 kvL_47 rfl hMA.1 rfl rfl (c_X6_undo ⟨hMA, Fr.rf⟩ hR (fun q => absurd q a1) (fun _ f h2 M1 hM2 hR2 => ?_))
    replace hR2 := hR2.hf (eH E)
    replace hC := hC.frO hM2.2 (Or.inr (Nat.le_refl _))
    replace hMA := hM2.1
    replace hR := hR2
    refine VS_icmp_eq 305 608 dL_law_305 rfl (fun _ => ?_) (fun q => absurd rfl q)
    exact VS_bud (by omega) (by omega) (kn _ _ _ _ _ _ _ _ _ _ _ _ _ (by omega) (by omega) hC hMA hR)
set_option maxHeartbeats 1000000 in
set_option maxRecDepth 100000 in
theorem law_contender (hC : CA G h x X Q Qd E Et nx hs K S) (hMA : MA G h (x + 138) M) (hR : REL B X Q E nx hs K M) (hB : 1 ≤ B ∧ B < 2 ^ 28) (hI : I + 5 ≤ z.2.1) (hL : z.2.1 ≤ 2560) (kn : ∀ (h : hpT) (sz B1 : Nat) (X : TX) (Q Qd : RG) (E Et : ET) (nx hs : Nat) (K : Nat → ET) (S : FT × (Nat → ET)) (M : MT), 1 ≤ B1 → B1 ≤ B + 300 → CA G h x X Q Qd E Et nx hs K S → MA G h (x + 138) M → REL B1 X Q E nx hs K M → VS z l G RL cL_law 4 (some .boolean) false 11 (5 * n) (30 * n) Post 608 [some (.ref z.1), some (.ref x), some (.ref (x + 138)), some (.int (nI I))] [] h sz) : VS z l G RL cL_law 4 (some .boolean) false 11 (5 * n + 5) (30 * n + 30) Post 310 [some (.ref z.1), some (.ref x), some (.ref (x + 138)), some (.int (nI I))] [] h sz := by
  refine VS_aload_n 310 dL_law_310 rfl ?_
  refine VS_aload_n 311 dL_law_311 rfl ?_
  refine VS_iload_n 312 dL_law_312 rfl ?_
  refine VS_iconstv 313 (1) dL_law_313 (by decide) ?_
  refine VS_iadd 314 dL_law_314 ?_
  refine VS_topi (nI (I + 1)) (nI_add I 1) ?_
  refine VS_sld 315 (I + 1) (nI_clamp (by omega)) dL_law_315 (vp_in_nI (by omega) (by omega)) ?_
  refine VS_aload_n 316 dL_law_316 rfl ?_
  refine VS_iload_n 317 dL_law_317 rfl ?_
  refine VS_iconstv 318 (2) dL_law_318 (by decide) ?_
  refine VS_iadd 319 dL_law_319 ?_
  refine VS_topi (nI (I + 2)) (nI_add I 2) ?_
  refine VS_sld 320 (I + 2) (nI_clamp (by omega)) dL_law_320 (vp_in_nI (by omega) (by omega)) ?_
  refine VS_iv2 321 dL_law_321 kvL_48 rfl hC.1 rfl rfl (c_X5_contender hC (fun a0 => ?_) (fun a1 => ?_))
  · refine VS_aload_n 324 dL_law_324 rfl ?_
    refine VS_aload_n 325 dL_law_325 rfl ?_
    refine VS_iload_n 326 dL_law_326 rfl ?_
    refine VS_iconstv 327 (1) dL_law_327 (by decide) ?_
    refine VS_iadd 328 dL_law_328 ?_
    refine VS_topi (nI (I + 1)) (nI_add I 1) ?_
    refine VS_sld 329 (I + 1) (nI_clamp (by omega)) dL_law_329 (vp_in_nI (by omega) (by omega)) ?_
    refine VS_aload_n 330 dL_law_330 rfl ?_
    refine VS_iload_n 331 dL_law_331 rfl ?_
    refine VS_iconstv 332 (2) dL_law_332 (by decide) ?_
    refine VS_iadd 333 dL_law_333 ?_
    refine VS_topi (nI (I + 2)) (nI_add I 2) ?_
    refine VS_sld 334 (I + 2) (nI_clamp (by omega)) dL_law_334 (vp_in_nI (by omega) (by omega)) ?_
    refine VS_iv2 335 dL_law_335 kvL_52 rfl hMA.1 rfl rfl (c_X6_contender ⟨hMA, Fr.rf⟩ hR (fun _ => ?_) (fun q => absurd (q.symm.trans a0) (by decide)))
    refine VS_icmp_eq 338 608 dL_law_338 rfl (fun _ => ?_) (fun q => absurd rfl q)
    exact VS_bud (by omega) (by omega) (kn _ _ _ _ _ _ _ _ _ _ _ _ _ (by omega) (by omega) hC hMA hR)
  · refine VS_aload_n 324 dL_law_324 rfl ?_
    refine VS_aload_n 325 dL_law_325 rfl ?_
    refine VS_iload_n 326 dL_law_326 rfl ?_
    refine VS_iconstv 327 (1) dL_law_327 (by decide) ?_
    refine VS_iadd 328 dL_law_328 ?_
    refine VS_topi (nI (I + 1)) (nI_add I 1) ?_
    refine VS_sld 329 (I + 1) (nI_clamp (by omega)) dL_law_329 (vp_in_nI (by omega) (by omega)) ?_
    refine VS_aload_n 330 dL_law_330 rfl ?_
    refine VS_iload_n 331 dL_law_331 rfl ?_
    refine VS_iconstv 332 (2) dL_law_332 (by decide) ?_
    refine VS_iadd 333 dL_law_333 ?_
    refine VS_topi (nI (I + 2)) (nI_add I 2) ?_
    refine VS_sld 334 (I + 2) (nI_clamp (by omega)) dL_law_334 (vp_in_nI (by omega) (by omega)) ?_
    refine VS_iv2 335 dL_law_335 kvL_52 rfl hMA.1 rfl rfl (c_X6_contender ⟨hMA, Fr.rf⟩ hR (fun q => absurd (a1.symm.trans q) (by decide)) (fun _ => ?_))
    refine VS_icmp_eq 338 608 dL_law_338 rfl (fun _ => ?_) (fun q => absurd rfl q)
    exact VS_bud (by omega) (by omega) (kn _ _ _ _ _ _ _ _ _ _ _ _ _ (by omega) (by omega) hC hMA hR)
set_option maxHeartbeats 1000000 in
set_option maxRecDepth 100000 in
theorem law_link (hC : CA G h x X Q Qd E Et nx hs K S) (hMA : MA G h (x + 138) M) (hR : REL B X Q E nx hs K M) (hB : 1 ≤ B ∧ B < 2 ^ 28) (hI : I + 5 ≤ z.2.1) (hL : z.2.1 ≤ 2560) (kn : ∀ (h : hpT) (sz B1 : Nat) (X : TX) (Q Qd : RG) (E Et : ET) (nx hs : Nat) (K : Nat → ET) (S : FT × (Nat → ET)) (M : MT), 1 ≤ B1 → B1 ≤ B + 300 → CA G h x X Q Qd E Et nx hs K S → MA G h (x + 138) M → REL B1 X Q E nx hs K M → VS z l G RL cL_law 4 (some .boolean) false 11 (5 * n) (30 * n) Post 608 [some (.ref z.1), some (.ref x), some (.ref (x + 138)), some (.int (nI I))] [] h sz) : VS z l G RL cL_law 4 (some .boolean) false 11 (5 * n + 5) (30 * n + 30) Post 343 [some (.ref z.1), some (.ref x), some (.ref (x + 138)), some (.int (nI I))] [] h sz := by
  refine VS_aload_n 343 dL_law_343 rfl ?_
  refine VS_aload_n 344 dL_law_344 rfl ?_
  refine VS_iload_n 345 dL_law_345 rfl ?_
  refine VS_iconstv 346 (1) dL_law_346 (by decide) ?_
  refine VS_iadd 347 dL_law_347 ?_
  refine VS_topi (nI (I + 1)) (nI_add I 1) ?_
  refine VS_sld 348 (I + 1) (nI_clamp (by omega)) dL_law_348 (vp_in_nI (by omega) (by omega)) ?_
  refine VS_iv1 349 dL_law_349 kvL_53 rfl hC.1 rfl rfl (c_X5_link hC (fun a0 => ?_) (fun a1 => ?_))
  · refine VS_aload_n 352 dL_law_352 rfl ?_
    refine VS_aload_n 353 dL_law_353 rfl ?_
    refine VS_iload_n 354 dL_law_354 rfl ?_
    refine VS_iconstv 355 (1) dL_law_355 (by decide) ?_
    refine VS_iadd 356 dL_law_356 ?_
    refine VS_topi (nI (I + 1)) (nI_add I 1) ?_
    refine VS_sld 357 (I + 1) (nI_clamp (by omega)) dL_law_357 (vp_in_nI (by omega) (by omega)) ?_
    refine VS_iv1 358 dL_law_358 kvL_56 rfl hMA.1 rfl rfl (c_X6_link ⟨hMA, Fr.rf⟩ hR (fun _ => ?_) (fun q => absurd (q.symm.trans a0) (by decide)))
    refine VS_icmp_eq 361 608 dL_law_361 rfl (fun _ => ?_) (fun q => absurd rfl q)
    exact VS_bud (by omega) (by omega) (kn _ _ _ _ _ _ _ _ _ _ _ _ _ (by omega) (by omega) hC hMA hR)
  · refine VS_aload_n 352 dL_law_352 rfl ?_
    refine VS_aload_n 353 dL_law_353 rfl ?_
    refine VS_iload_n 354 dL_law_354 rfl ?_
    refine VS_iconstv 355 (1) dL_law_355 (by decide) ?_
    refine VS_iadd 356 dL_law_356 ?_
    refine VS_topi (nI (I + 1)) (nI_add I 1) ?_
    refine VS_sld 357 (I + 1) (nI_clamp (by omega)) dL_law_357 (vp_in_nI (by omega) (by omega)) ?_
    refine VS_iv1 358 dL_law_358 kvL_56 rfl hMA.1 rfl rfl (c_X6_link ⟨hMA, Fr.rf⟩ hR (fun q => absurd (a1.symm.trans q) (by decide)) (fun _ => ?_))
    refine VS_icmp_eq 361 608 dL_law_361 rfl (fun _ => ?_) (fun q => absurd rfl q)
    exact VS_bud (by omega) (by omega) (kn _ _ _ _ _ _ _ _ _ _ _ _ _ (by omega) (by omega) hC hMA hR)
set_option maxHeartbeats 1000000 in
set_option maxRecDepth 100000 in
theorem law_letter (hC : CA G h x X Q Qd E Et nx hs K S) (hMA : MA G h (x + 138) M) (hR : REL B X Q E nx hs K M) (hB : 1 ≤ B ∧ B < 2 ^ 28) (hI : I + 5 ≤ z.2.1) (hL : z.2.1 ≤ 2560) (kn : ∀ (h : hpT) (sz B1 : Nat) (X : TX) (Q Qd : RG) (E Et : ET) (nx hs : Nat) (K : Nat → ET) (S : FT × (Nat → ET)) (M : MT), 1 ≤ B1 → B1 ≤ B + 300 → CA G h x X Q Qd E Et nx hs K S → MA G h (x + 138) M → REL B1 X Q E nx hs K M → VS z l G RL cL_law 4 (some .boolean) false 11 (5 * n) (30 * n) Post 608 [some (.ref z.1), some (.ref x), some (.ref (x + 138)), some (.int (nI I))] [] h sz) : VS z l G RL cL_law 4 (some .boolean) false 11 (5 * n + 5) (30 * n + 30) Post 366 [some (.ref z.1), some (.ref x), some (.ref (x + 138)), some (.int (nI I))] [] h sz := by
  refine VS_aload_n 366 dL_law_366 rfl ?_
  refine VS_aload_n 367 dL_law_367 rfl ?_
  refine VS_iload_n 368 dL_law_368 rfl ?_
  refine VS_iconstv 369 (1) dL_law_369 (by decide) ?_
  refine VS_iadd 370 dL_law_370 ?_
  refine VS_topi (nI (I + 1)) (nI_add I 1) ?_
  refine VS_sld 371 (I + 1) (nI_clamp (by omega)) dL_law_371 (vp_in_nI (by omega) (by omega)) ?_
  refine VS_aload_n 372 dL_law_372 rfl ?_
  refine VS_iload_n 373 dL_law_373 rfl ?_
  refine VS_iconstv 374 (2) dL_law_374 (by decide) ?_
  refine VS_iadd 375 dL_law_375 ?_
  refine VS_topi (nI (I + 2)) (nI_add I 2) ?_
  refine VS_sld 376 (I + 2) (nI_clamp (by omega)) dL_law_376 (vp_in_nI (by omega) (by omega)) ?_
  refine VS_aload_n 377 dL_law_377 rfl ?_
  refine VS_iload_n 378 dL_law_378 rfl ?_
  refine VS_iconstv 379 (3) dL_law_379 (by decide) ?_
  refine VS_iadd 380 dL_law_380 ?_
  refine VS_topi (nI (I + 3)) (nI_add I 3) ?_
  refine VS_sld 381 (I + 3) (nI_clamp (by omega)) dL_law_381 (vp_in_nI (by omega) (by omega)) ?_
  refine VS_iv3 382 dL_law_382 kvL_57 rfl hC.1 rfl rfl (c_X5_letter hC (fun a0 => ?_) (fun a1 a2 => ?_) (fun a1 a2 => ?_))
  · refine VS_aload_n 385 dL_law_385 rfl ?_
    refine VS_aload_n 386 dL_law_386 rfl ?_
    refine VS_iload_n 387 dL_law_387 rfl ?_
    refine VS_iconstv 388 (1) dL_law_388 (by decide) ?_
    refine VS_iadd 389 dL_law_389 ?_
    refine VS_topi (nI (I + 1)) (nI_add I 1) ?_
    refine VS_sld 390 (I + 1) (nI_clamp (by omega)) dL_law_390 (vp_in_nI (by omega) (by omega)) ?_
    refine VS_aload_n 391 dL_law_391 rfl ?_
    refine VS_iload_n 392 dL_law_392 rfl ?_
    refine VS_iconstv 393 (2) dL_law_393 (by decide) ?_
    refine VS_iadd 394 dL_law_394 ?_
    refine VS_topi (nI (I + 2)) (nI_add I 2) ?_
    refine VS_sld 395 (I + 2) (nI_clamp (by omega)) dL_law_395 (vp_in_nI (by omega) (by omega)) ?_
    refine VS_aload_n 396 dL_law_396 rfl ?_
    refine VS_iload_n 397 dL_law_397 rfl ?_
    refine VS_iconstv 398 (3) dL_law_398 (by decide) ?_
    refine VS_iadd 399 dL_law_399 ?_
    refine VS_topi (nI (I + 3)) (nI_add I 3) ?_
    refine VS_sld 400 (I + 3) (nI_clamp (by omega)) dL_law_400 (vp_in_nI (by omega) (by omega)) ?_
    refine VS_iv3 401 dL_law_401 kvL_60 rfl hMA.1 rfl rfl (c_X6_letter ⟨hMA, Fr.rf⟩ hR (fun _ => ?_) (fun q _ => absurd (q.symm.trans a0) (by decide)) (fun q _ => absurd (q.symm.trans a0) (by decide)))
    refine VS_icmp_eq 404 608 dL_law_404 rfl (fun _ => ?_) (fun q => absurd rfl q)
    exact VS_bud (by omega) (by omega) (kn _ _ _ _ _ _ _ _ _ _ _ _ _ (by omega) (by omega) hC hMA hR)
  · refine VS_aload_n 385 dL_law_385 rfl ?_
    refine VS_aload_n 386 dL_law_386 rfl ?_
    refine VS_iload_n 387 dL_law_387 rfl ?_
    refine VS_iconstv 388 (1) dL_law_388 (by decide) ?_
    refine VS_iadd 389 dL_law_389 ?_
    refine VS_topi (nI (I + 1)) (nI_add I 1) ?_
    refine VS_sld 390 (I + 1) (nI_clamp (by omega)) dL_law_390 (vp_in_nI (by omega) (by omega)) ?_
    refine VS_aload_n 391 dL_law_391 rfl ?_
    refine VS_iload_n 392 dL_law_392 rfl ?_
    refine VS_iconstv 393 (2) dL_law_393 (by decide) ?_
    refine VS_iadd 394 dL_law_394 ?_
    refine VS_topi (nI (I + 2)) (nI_add I 2) ?_
    refine VS_sld 395 (I + 2) (nI_clamp (by omega)) dL_law_395 (vp_in_nI (by omega) (by omega)) ?_
    refine VS_aload_n 396 dL_law_396 rfl ?_
    refine VS_iload_n 397 dL_law_397 rfl ?_
    refine VS_iconstv 398 (3) dL_law_398 (by decide) ?_
    refine VS_iadd 399 dL_law_399 ?_
    refine VS_topi (nI (I + 3)) (nI_add I 3) ?_
    refine VS_sld 400 (I + 3) (nI_clamp (by omega)) dL_law_400 (vp_in_nI (by omega) (by omega)) ?_
    refine VS_iv3 401 dL_law_401 kvL_60 rfl hMA.1 rfl rfl (c_X6_letter ⟨hMA, Fr.rf⟩ hR (fun q => absurd (a1.symm.trans q) (by decide)) (fun _ _ => ?_) (fun _ q => absurd a2 q))
    refine VS_icmp_eq 404 608 dL_law_404 rfl (fun _ => ?_) (fun q => absurd rfl q)
    exact VS_bud (by omega) (by omega) (kn _ _ _ _ _ _ _ _ _ _ _ _ _ (by omega) (by omega) hC hMA hR)
  · refine VS_aload_n 385 dL_law_385 rfl ?_
    refine VS_aload_n 386 dL_law_386 rfl ?_
    refine VS_iload_n 387 dL_law_387 rfl ?_
    refine VS_iconstv 388 (1) dL_law_388 (by decide) ?_
    refine VS_iadd 389 dL_law_389 ?_
    refine VS_topi (nI (I + 1)) (nI_add I 1) ?_
    refine VS_sld 390 (I + 1) (nI_clamp (by omega)) dL_law_390 (vp_in_nI (by omega) (by omega)) ?_
    refine VS_aload_n 391 dL_law_391 rfl ?_
    refine VS_iload_n 392 dL_law_392 rfl ?_
    refine VS_iconstv 393 (2) dL_law_393 (by decide) ?_
    refine VS_iadd 394 dL_law_394 ?_
    refine VS_topi (nI (I + 2)) (nI_add I 2) ?_
    refine VS_sld 395 (I + 2) (nI_clamp (by omega)) dL_law_395 (vp_in_nI (by omega) (by omega)) ?_
    refine VS_aload_n 396 dL_law_396 rfl ?_
    refine VS_iload_n 397 dL_law_397 rfl ?_
    refine VS_iconstv 398 (3) dL_law_398 (by decide) ?_
    refine VS_iadd 399 dL_law_399 ?_
    refine VS_topi (nI (I + 3)) (nI_add I 3) ?_
    refine VS_sld 400 (I + 3) (nI_clamp (by omega)) dL_law_400 (vp_in_nI (by omega) (by omega)) ?_
    refine VS_iv3 401 dL_law_401 kvL_60 rfl hMA.1 rfl rfl (c_X6_letter ⟨hMA, Fr.rf⟩ hR (fun q => absurd (a1.symm.trans q) (by decide)) (fun _ q => absurd q a2) (fun _ _ => ?_))
    refine VS_icmp_eq 404 608 dL_law_404 rfl (fun _ => ?_) (fun q => absurd rfl q)
    exact VS_bud (by omega) (by omega) (kn _ _ _ _ _ _ _ _ _ _ _ _ _ (by omega) (by omega) hC hMA hR)
set_option maxHeartbeats 1000000 in
set_option maxRecDepth 100000 in
theorem law_sent (hC : CA G h x X Q Qd E Et nx hs K S) (hMA : MA G h (x + 138) M) (hR : REL B X Q E nx hs K M) (hB : 1 ≤ B ∧ B < 2 ^ 28) (hI : I + 5 ≤ z.2.1) (hL : z.2.1 ≤ 2560) (kn : ∀ (h : hpT) (sz B1 : Nat) (X : TX) (Q Qd : RG) (E Et : ET) (nx hs : Nat) (K : Nat → ET) (S : FT × (Nat → ET)) (M : MT), 1 ≤ B1 → B1 ≤ B + 300 → CA G h x X Q Qd E Et nx hs K S → MA G h (x + 138) M → REL B1 X Q E nx hs K M → VS z l G RL cL_law 4 (some .boolean) false 11 (5 * n) (30 * n) Post 608 [some (.ref z.1), some (.ref x), some (.ref (x + 138)), some (.int (nI I))] [] h sz) : VS z l G RL cL_law 4 (some .boolean) false 11 (5 * n + 5) (30 * n + 30) Post 409 [some (.ref z.1), some (.ref x), some (.ref (x + 138)), some (.int (nI I))] [] h sz := by
  refine VS_aload_n 409 dL_law_409 rfl ?_
  refine VS_aload_n 410 dL_law_410 rfl ?_
  refine VS_iload_n 411 dL_law_411 rfl ?_
  refine VS_iconstv 412 (1) dL_law_412 (by decide) ?_
  refine VS_iadd 413 dL_law_413 ?_
  refine VS_topi (nI (I + 1)) (nI_add I 1) ?_
  refine VS_sld 414 (I + 1) (nI_clamp (by omega)) dL_law_414 (vp_in_nI (by omega) (by omega)) ?_
  refine VS_iv1 415 dL_law_415 kvL_61 rfl hC.1 rfl rfl (c_X5_sent hC (fun a0 => ?_) (fun a1 => ?_))
  · refine VS_aload_n 418 dL_law_418 rfl ?_
    refine VS_aload_n 419 dL_law_419 rfl ?_
    refine VS_iload_n 420 dL_law_420 rfl ?_
    refine VS_iconstv 421 (1) dL_law_421 (by decide) ?_
    refine VS_iadd 422 dL_law_422 ?_
    refine VS_topi (nI (I + 1)) (nI_add I 1) ?_
    refine VS_sld 423 (I + 1) (nI_clamp (by omega)) dL_law_423 (vp_in_nI (by omega) (by omega)) ?_
    refine VS_iv1 424 dL_law_424 kvL_64 rfl hMA.1 rfl rfl (c_X6_sent ⟨hMA, Fr.rf⟩ hR (fun _ => ?_) (fun q => absurd q a0))
    refine VS_icmp_eq 427 608 dL_law_427 rfl (fun _ => ?_) (fun q => absurd rfl q)
    exact VS_bud (by omega) (by omega) (kn _ _ _ _ _ _ _ _ _ _ _ _ _ (by omega) (by omega) hC hMA hR)
  · refine VS_aload_n 418 dL_law_418 rfl ?_
    refine VS_aload_n 419 dL_law_419 rfl ?_
    refine VS_iload_n 420 dL_law_420 rfl ?_
    refine VS_iconstv 421 (1) dL_law_421 (by decide) ?_
    refine VS_iadd 422 dL_law_422 ?_
    refine VS_topi (nI (I + 1)) (nI_add I 1) ?_
    refine VS_sld 423 (I + 1) (nI_clamp (by omega)) dL_law_423 (vp_in_nI (by omega) (by omega)) ?_
    refine VS_iv1 424 dL_law_424 kvL_64 rfl hMA.1 rfl rfl (c_X6_sent ⟨hMA, Fr.rf⟩ hR (fun q => absurd a1 q) (fun _ => ?_))
    refine VS_icmp_eq 427 608 dL_law_427 rfl (fun _ => ?_) (fun q => absurd rfl q)
    exact VS_bud (by omega) (by omega) (kn _ _ _ _ _ _ _ _ _ _ _ _ _ (by omega) (by omega) hC hMA hR)
set_option maxHeartbeats 1000000 in
set_option maxRecDepth 100000 in
theorem law_would (hC : CA G h x X Q Qd E Et nx hs K S) (hMA : MA G h (x + 138) M) (hR : REL B X Q E nx hs K M) (hB : 1 ≤ B ∧ B < 2 ^ 28) (hI : I + 5 ≤ z.2.1) (hL : z.2.1 ≤ 2560) (kn : ∀ (h : hpT) (sz B1 : Nat) (X : TX) (Q Qd : RG) (E Et : ET) (nx hs : Nat) (K : Nat → ET) (S : FT × (Nat → ET)) (M : MT), 1 ≤ B1 → B1 ≤ B + 300 → CA G h x X Q Qd E Et nx hs K S → MA G h (x + 138) M → REL B1 X Q E nx hs K M → VS z l G RL cL_law 4 (some .boolean) false 11 (5 * n) (30 * n) Post 608 [some (.ref z.1), some (.ref x), some (.ref (x + 138)), some (.int (nI I))] [] h sz) : VS z l G RL cL_law 4 (some .boolean) false 11 (5 * n + 5) (30 * n + 30) Post 432 [some (.ref z.1), some (.ref x), some (.ref (x + 138)), some (.int (nI I))] [] h sz := by
  refine VS_aload_n 432 dL_law_432 rfl ?_
  refine VS_aload_n 433 dL_law_433 rfl ?_
  refine VS_iload_n 434 dL_law_434 rfl ?_
  refine VS_iconstv 435 (1) dL_law_435 (by decide) ?_
  refine VS_iadd 436 dL_law_436 ?_
  refine VS_topi (nI (I + 1)) (nI_add I 1) ?_
  refine VS_sld 437 (I + 1) (nI_clamp (by omega)) dL_law_437 (vp_in_nI (by omega) (by omega)) ?_
  refine VS_aload_n 438 dL_law_438 rfl ?_
  refine VS_iload_n 439 dL_law_439 rfl ?_
  refine VS_iconstv 440 (2) dL_law_440 (by decide) ?_
  refine VS_iadd 441 dL_law_441 ?_
  refine VS_topi (nI (I + 2)) (nI_add I 2) ?_
  refine VS_sld 442 (I + 2) (nI_clamp (by omega)) dL_law_442 (vp_in_nI (by omega) (by omega)) ?_
  refine VS_aload_n 443 dL_law_443 rfl ?_
  refine VS_iload_n 444 dL_law_444 rfl ?_
  refine VS_iconstv 445 (3) dL_law_445 (by decide) ?_
  refine VS_iadd 446 dL_law_446 ?_
  refine VS_topi (nI (I + 3)) (nI_add I 3) ?_
  refine VS_sld 447 (I + 3) (nI_clamp (by omega)) dL_law_447 (vp_in_nI (by omega) (by omega)) ?_
  refine VS_iv3 448 dL_law_448 kvL_65 rfl hC.1 rfl rfl (c_X5_would hC (fun a0 => ?_) (fun a1 a2 => ?_) (fun a1 a2 h1 hC1 hF => ?_))
  · refine VS_aload_n 451 dL_law_451 rfl ?_
    refine VS_aload_n 452 dL_law_452 rfl ?_
    refine VS_iload_n 453 dL_law_453 rfl ?_
    refine VS_iconstv 454 (1) dL_law_454 (by decide) ?_
    refine VS_iadd 455 dL_law_455 ?_
    refine VS_topi (nI (I + 1)) (nI_add I 1) ?_
    refine VS_sld 456 (I + 1) (nI_clamp (by omega)) dL_law_456 (vp_in_nI (by omega) (by omega)) ?_
    refine VS_aload_n 457 dL_law_457 rfl ?_
    refine VS_iload_n 458 dL_law_458 rfl ?_
    refine VS_iconstv 459 (2) dL_law_459 (by decide) ?_
    refine VS_iadd 460 dL_law_460 ?_
    refine VS_topi (nI (I + 2)) (nI_add I 2) ?_
    refine VS_sld 461 (I + 2) (nI_clamp (by omega)) dL_law_461 (vp_in_nI (by omega) (by omega)) ?_
    refine VS_aload_n 462 dL_law_462 rfl ?_
    refine VS_iload_n 463 dL_law_463 rfl ?_
    refine VS_iconstv 464 (3) dL_law_464 (by decide) ?_
    refine VS_iadd 465 dL_law_465 ?_
    refine VS_topi (nI (I + 3)) (nI_add I 3) ?_
    refine VS_sld 466 (I + 3) (nI_clamp (by omega)) dL_law_466 (vp_in_nI (by omega) (by omega)) ?_
    refine VS_iv3 467 dL_law_467 kvL_68 rfl hMA.1 rfl rfl (c_X6_would ⟨hMA, Fr.rf⟩ hR hB.2 (eH Et) (fun _ => ?_) (fun q _ => absurd q a0) (fun q _ => absurd q a0))
    refine VS_icmp_eq 470 608 dL_law_470 rfl (fun _ => ?_) (fun q => absurd rfl q)
    exact VS_bud (by omega) (by omega) (kn _ _ _ _ _ _ _ _ _ _ _ _ _ (by omega) (by omega) hC hMA hR)
  · refine VS_aload_n 451 dL_law_451 rfl ?_
    refine VS_aload_n 452 dL_law_452 rfl ?_
    refine VS_iload_n 453 dL_law_453 rfl ?_
    refine VS_iconstv 454 (1) dL_law_454 (by decide) ?_
    refine VS_iadd 455 dL_law_455 ?_
    refine VS_topi (nI (I + 1)) (nI_add I 1) ?_
    refine VS_sld 456 (I + 1) (nI_clamp (by omega)) dL_law_456 (vp_in_nI (by omega) (by omega)) ?_
    refine VS_aload_n 457 dL_law_457 rfl ?_
    refine VS_iload_n 458 dL_law_458 rfl ?_
    refine VS_iconstv 459 (2) dL_law_459 (by decide) ?_
    refine VS_iadd 460 dL_law_460 ?_
    refine VS_topi (nI (I + 2)) (nI_add I 2) ?_
    refine VS_sld 461 (I + 2) (nI_clamp (by omega)) dL_law_461 (vp_in_nI (by omega) (by omega)) ?_
    refine VS_aload_n 462 dL_law_462 rfl ?_
    refine VS_iload_n 463 dL_law_463 rfl ?_
    refine VS_iconstv 464 (3) dL_law_464 (by decide) ?_
    refine VS_iadd 465 dL_law_465 ?_
    refine VS_topi (nI (I + 3)) (nI_add I 3) ?_
    refine VS_sld 466 (I + 3) (nI_clamp (by omega)) dL_law_466 (vp_in_nI (by omega) (by omega)) ?_
    refine VS_iv3 467 dL_law_467 kvL_68 rfl hMA.1 rfl rfl (c_X6_would ⟨hMA, Fr.rf⟩ hR hB.2 (eH Et) (fun q => absurd a1 q) (fun _ _ => ?_) (fun _ q => absurd a2 q))
    refine VS_icmp_eq 470 608 dL_law_470 rfl (fun _ => ?_) (fun q => absurd rfl q)
    exact VS_bud (by omega) (by omega) (kn _ _ _ _ _ _ _ _ _ _ _ _ _ (by omega) (by omega) hC hMA hR)
  · refine VS_aload_n 451 dL_law_451 rfl ?_
    refine VS_aload_n 452 dL_law_452 rfl ?_
    refine VS_iload_n 453 dL_law_453 rfl ?_
    refine VS_iconstv 454 (1) dL_law_454 (by decide) ?_
    refine VS_iadd 455 dL_law_455 ?_
    refine VS_topi (nI (I + 1)) (nI_add I 1) ?_
    refine VS_sld 456 (I + 1) (nI_clamp (by omega)) dL_law_456 (vp_in_nI (by omega) (by omega)) ?_
    refine VS_aload_n 457 dL_law_457 rfl ?_
    refine VS_iload_n 458 dL_law_458 rfl ?_
    refine VS_iconstv 459 (2) dL_law_459 (by decide) ?_
    refine VS_iadd 460 dL_law_460 ?_
    refine VS_topi (nI (I + 2)) (nI_add I 2) ?_
    refine VS_sld 461 (I + 2) (nI_clamp (by omega)) dL_law_461 (vp_in_nI (by omega) (by omega)) ?_
    refine VS_aload_n 462 dL_law_462 rfl ?_
    refine VS_iload_n 463 dL_law_463 rfl ?_
    refine VS_iconstv 464 (3) dL_law_464 (by decide) ?_
    refine VS_iadd 465 dL_law_465 ?_
    refine VS_topi (nI (I + 3)) (nI_add I 3) ?_
    refine VS_sld 466 (I + 3) (nI_clamp (by omega)) dL_law_466 (vp_in_nI (by omega) (by omega)) ?_
    replace hMA := hMA.fr hF (Or.inl (Nat.le_refl _))
    replace hC := hC1
    refine VS_iv3 467 dL_law_467 kvL_68 rfl hMA.1 rfl rfl (c_X6_would ⟨hMA, Fr.rf⟩ hR hB.2 (eH Et) (fun q => absurd a1 q) (fun _ q => absurd q a2) (fun _ _ h2 M1 hM2 hR2 => ?_))
    replace hC := hC.frO hM2.2 (Or.inr (Nat.le_refl _))
    replace hMA := hM2.1
    replace hR := hR2
    refine VS_icmp_eq 470 608 dL_law_470 rfl (fun _ => ?_) (fun q => absurd rfl q)
    exact VS_bud (by omega) (by omega) (kn _ _ _ _ _ _ _ _ _ _ _ _ _ (by omega) (by omega) hC hMA hR)
set_option maxHeartbeats 1000000 in
set_option maxRecDepth 100000 in
theorem law_foresee (hC : CA G h x X Q Qd E Et nx hs K S) (hMA : MA G h (x + 138) M) (hR : REL B X Q E nx hs K M) (hB : 1 ≤ B ∧ B < 2 ^ 28) (hI : I + 5 ≤ z.2.1) (hL : z.2.1 ≤ 2560) (kn : ∀ (h : hpT) (sz B1 : Nat) (X : TX) (Q Qd : RG) (E Et : ET) (nx hs : Nat) (K : Nat → ET) (S : FT × (Nat → ET)) (M : MT), 1 ≤ B1 → B1 ≤ B + 300 → CA G h x X Q Qd E Et nx hs K S → MA G h (x + 138) M → REL B1 X Q E nx hs K M → VS z l G RL cL_law 4 (some .boolean) false 11 (5 * n) (30 * n) Post 608 [some (.ref z.1), some (.ref x), some (.ref (x + 138)), some (.int (nI I))] [] h sz) : VS z l G RL cL_law 4 (some .boolean) false 11 (5 * n + 5) (30 * n + 30) Post 475 [some (.ref z.1), some (.ref x), some (.ref (x + 138)), some (.int (nI I))] [] h sz := by
  refine VS_aload_n 475 dL_law_475 rfl ?_
  refine VS_aload_n 476 dL_law_476 rfl ?_
  refine VS_iload_n 477 dL_law_477 rfl ?_
  refine VS_iconstv 478 (1) dL_law_478 (by decide) ?_
  refine VS_iadd 479 dL_law_479 ?_
  refine VS_topi (nI (I + 1)) (nI_add I 1) ?_
  refine VS_sld 480 (I + 1) (nI_clamp (by omega)) dL_law_480 (vp_in_nI (by omega) (by omega)) ?_
  refine VS_aload_n 481 dL_law_481 rfl ?_
  refine VS_iload_n 482 dL_law_482 rfl ?_
  refine VS_iconstv 483 (2) dL_law_483 (by decide) ?_
  refine VS_iadd 484 dL_law_484 ?_
  refine VS_topi (nI (I + 2)) (nI_add I 2) ?_
  refine VS_sld 485 (I + 2) (nI_clamp (by omega)) dL_law_485 (vp_in_nI (by omega) (by omega)) ?_
  refine VS_iv2 486 dL_law_486 kvL_69 rfl hC.1 rfl rfl (c_X5_foresee hC (fun a0 => ?_) (fun a1 a2 => ?_) (fun a1 a2 a3 => ?_) (fun a1 a2 a3 N aN N1 N2 h1 hC1 hF => ?_))
  · refine VS_aload_n 489 dL_law_489 rfl ?_
    refine VS_aload_n 490 dL_law_490 rfl ?_
    refine VS_iload_n 491 dL_law_491 rfl ?_
    refine VS_iconstv 492 (1) dL_law_492 (by decide) ?_
    refine VS_iadd 493 dL_law_493 ?_
    refine VS_topi (nI (I + 1)) (nI_add I 1) ?_
    refine VS_sld 494 (I + 1) (nI_clamp (by omega)) dL_law_494 (vp_in_nI (by omega) (by omega)) ?_
    refine VS_aload_n 495 dL_law_495 rfl ?_
    refine VS_iload_n 496 dL_law_496 rfl ?_
    refine VS_iconstv 497 (2) dL_law_497 (by decide) ?_
    refine VS_iadd 498 dL_law_498 ?_
    refine VS_topi (nI (I + 2)) (nI_add I 2) ?_
    refine VS_sld 499 (I + 2) (nI_clamp (by omega)) dL_law_499 (vp_in_nI (by omega) (by omega)) ?_
    refine VS_iv2 500 dL_law_500 kvL_72 rfl hMA.1 rfl rfl (c_X6_foresee ⟨hMA, Fr.rf⟩ hR hB.2 S.2 (fun _ => ?_) (fun q _ => absurd q a0) (fun q _ _ => absurd q a0) (fun q _ _ => absurd q a0))
    refine VS_icmp_eq 503 608 dL_law_503 rfl (fun _ => ?_) (fun q => absurd rfl q)
    exact VS_bud (by omega) (by omega) (kn _ _ _ _ _ _ _ _ _ _ _ _ _ (by omega) (by omega) hC hMA hR)
  · refine VS_aload_n 489 dL_law_489 rfl ?_
    refine VS_aload_n 490 dL_law_490 rfl ?_
    refine VS_iload_n 491 dL_law_491 rfl ?_
    refine VS_iconstv 492 (1) dL_law_492 (by decide) ?_
    refine VS_iadd 493 dL_law_493 ?_
    refine VS_topi (nI (I + 1)) (nI_add I 1) ?_
    refine VS_sld 494 (I + 1) (nI_clamp (by omega)) dL_law_494 (vp_in_nI (by omega) (by omega)) ?_
    refine VS_aload_n 495 dL_law_495 rfl ?_
    refine VS_iload_n 496 dL_law_496 rfl ?_
    refine VS_iconstv 497 (2) dL_law_497 (by decide) ?_
    refine VS_iadd 498 dL_law_498 ?_
    refine VS_topi (nI (I + 2)) (nI_add I 2) ?_
    refine VS_sld 499 (I + 2) (nI_clamp (by omega)) dL_law_499 (vp_in_nI (by omega) (by omega)) ?_
    refine VS_iv2 500 dL_law_500 kvL_72 rfl hMA.1 rfl rfl (c_X6_foresee ⟨hMA, Fr.rf⟩ hR hB.2 S.2 (fun q => absurd a1 q) (fun _ _ => ?_) (fun _ q => absurd a2 q) (fun _ q => absurd a2 q))
    refine VS_icmp_eq 503 608 dL_law_503 rfl (fun _ => ?_) (fun q => absurd rfl q)
    exact VS_bud (by omega) (by omega) (kn _ _ _ _ _ _ _ _ _ _ _ _ _ (by omega) (by omega) hC hMA hR)
  · refine VS_aload_n 489 dL_law_489 rfl ?_
    refine VS_aload_n 490 dL_law_490 rfl ?_
    refine VS_iload_n 491 dL_law_491 rfl ?_
    refine VS_iconstv 492 (1) dL_law_492 (by decide) ?_
    refine VS_iadd 493 dL_law_493 ?_
    refine VS_topi (nI (I + 1)) (nI_add I 1) ?_
    refine VS_sld 494 (I + 1) (nI_clamp (by omega)) dL_law_494 (vp_in_nI (by omega) (by omega)) ?_
    refine VS_aload_n 495 dL_law_495 rfl ?_
    refine VS_iload_n 496 dL_law_496 rfl ?_
    refine VS_iconstv 497 (2) dL_law_497 (by decide) ?_
    refine VS_iadd 498 dL_law_498 ?_
    refine VS_topi (nI (I + 2)) (nI_add I 2) ?_
    refine VS_sld 499 (I + 2) (nI_clamp (by omega)) dL_law_499 (vp_in_nI (by omega) (by omega)) ?_
    refine VS_iv2 500 dL_law_500 kvL_72 rfl hMA.1 rfl rfl (c_X6_foresee ⟨hMA, Fr.rf⟩ hR hB.2 S.2 (fun q => absurd a1 q) (fun _ q => absurd q a2) (fun _ _ _ => ?_) (fun _ _ q => absurd q a3))
    refine VS_icmp_eq 503 608 dL_law_503 rfl (fun _ => ?_) (fun q => absurd rfl q)
    exact VS_bud (by omega) (by omega) (kn _ _ _ _ _ _ _ _ _ _ _ _ _ (by omega) (by omega) hC hMA hR)
  · refine VS_aload_n 489 dL_law_489 rfl ?_
    refine VS_aload_n 490 dL_law_490 rfl ?_
    refine VS_iload_n 491 dL_law_491 rfl ?_
    refine VS_iconstv 492 (1) dL_law_492 (by decide) ?_
    refine VS_iadd 493 dL_law_493 ?_
    refine VS_topi (nI (I + 1)) (nI_add I 1) ?_
    refine VS_sld 494 (I + 1) (nI_clamp (by omega)) dL_law_494 (vp_in_nI (by omega) (by omega)) ?_
    refine VS_aload_n 495 dL_law_495 rfl ?_
    refine VS_iload_n 496 dL_law_496 rfl ?_
    refine VS_iconstv 497 (2) dL_law_497 (by decide) ?_
    refine VS_iadd 498 dL_law_498 ?_
    refine VS_topi (nI (I + 2)) (nI_add I 2) ?_
    refine VS_sld 499 (I + 2) (nI_clamp (by omega)) dL_law_499 (vp_in_nI (by omega) (by omega)) ?_
    replace hMA := hMA.fr hF (Or.inl (Nat.le_refl _))
    replace hC := hC1
    refine VS_iv2 500 dL_law_500 kvL_72 rfl hMA.1 rfl rfl (c_X6_foresee ⟨hMA, Fr.rf⟩ hR hB.2 S.2 (fun q => absurd a1 q) (fun _ q => absurd q a2) (fun _ _ q => absurd a3 q) (fun _ _ _ N3 bN b1 b2 h2 M1 hM2 hR2 => ?_))
    obtain rfl : N3 = N := (nI_eq (by omega) (by omega)).mp (bN.symm.trans aN)
    replace hC := hC.frO hM2.2 (Or.inr (Nat.le_refl _))
    replace hMA := hM2.1
    replace hR := hR2
    refine VS_icmp_eq 503 608 dL_law_503 rfl (fun _ => ?_) (fun q => absurd rfl q)
    exact VS_bud (by omega) (by omega) (kn _ _ _ _ _ _ _ _ _ _ _ _ _ (by omega) (by omega) hC hMA hR)
set_option maxHeartbeats 1000000 in
set_option maxRecDepth 100000 in
theorem law_sit (hC : CA G h x X Q Qd E Et nx hs K S) (hMA : MA G h (x + 138) M) (hR : REL B X Q E nx hs K M) (hB : 1 ≤ B ∧ B < 2 ^ 28) (hI : I + 5 ≤ z.2.1) (hL : z.2.1 ≤ 2560) (kn : ∀ (h : hpT) (sz B1 : Nat) (X : TX) (Q Qd : RG) (E Et : ET) (nx hs : Nat) (K : Nat → ET) (S : FT × (Nat → ET)) (M : MT), 1 ≤ B1 → B1 ≤ B + 300 → CA G h x X Q Qd E Et nx hs K S → MA G h (x + 138) M → REL B1 X Q E nx hs K M → VS z l G RL cL_law 4 (some .boolean) false 11 (5 * n) (30 * n) Post 608 [some (.ref z.1), some (.ref x), some (.ref (x + 138)), some (.int (nI I))] [] h sz) : VS z l G RL cL_law 4 (some .boolean) false 11 (5 * n + 5) (30 * n + 30) Post 508 [some (.ref z.1), some (.ref x), some (.ref (x + 138)), some (.int (nI I))] [] h sz := by
  refine VS_aload_n 508 dL_law_508 rfl ?_
  refine VS_aload_n 509 dL_law_509 rfl ?_
  refine VS_iload_n 510 dL_law_510 rfl ?_
  refine VS_iconstv 511 (1) dL_law_511 (by decide) ?_
  refine VS_iadd 512 dL_law_512 ?_
  refine VS_topi (nI (I + 1)) (nI_add I 1) ?_
  refine VS_sld 513 (I + 1) (nI_clamp (by omega)) dL_law_513 (vp_in_nI (by omega) (by omega)) ?_
  refine VS_iv1 514 dL_law_514 kvL_73 rfl hC.1 rfl rfl (c_X5_sit hC (fun a0 => ?_) (fun a1 a2 => ?_) (fun a1 a2 => ?_))
  · refine VS_aload_n 517 dL_law_517 rfl ?_
    refine VS_aload_n 518 dL_law_518 rfl ?_
    refine VS_iload_n 519 dL_law_519 rfl ?_
    refine VS_iconstv 520 (1) dL_law_520 (by decide) ?_
    refine VS_iadd 521 dL_law_521 ?_
    refine VS_topi (nI (I + 1)) (nI_add I 1) ?_
    refine VS_sld 522 (I + 1) (nI_clamp (by omega)) dL_law_522 (vp_in_nI (by omega) (by omega)) ?_
    refine VS_iv1 523 dL_law_523 kvL_76 rfl hMA.1 rfl rfl (c_X6_sit ⟨hMA, Fr.rf⟩ hR (fun _ => ?_) (fun q _ => absurd q a0) (fun q _ => absurd q a0))
    refine VS_icmp_eq 526 608 dL_law_526 rfl (fun _ => ?_) (fun q => absurd rfl q)
    exact VS_bud (by omega) (by omega) (kn _ _ _ _ _ _ _ _ _ _ _ _ _ (by omega) (by omega) hC hMA hR)
  · refine VS_aload_n 517 dL_law_517 rfl ?_
    refine VS_aload_n 518 dL_law_518 rfl ?_
    refine VS_iload_n 519 dL_law_519 rfl ?_
    refine VS_iconstv 520 (1) dL_law_520 (by decide) ?_
    refine VS_iadd 521 dL_law_521 ?_
    refine VS_topi (nI (I + 1)) (nI_add I 1) ?_
    refine VS_sld 522 (I + 1) (nI_clamp (by omega)) dL_law_522 (vp_in_nI (by omega) (by omega)) ?_
    refine VS_iv1 523 dL_law_523 kvL_76 rfl hMA.1 rfl rfl (c_X6_sit ⟨hMA, Fr.rf⟩ hR (fun q => absurd a1 q) (fun _ _ => ?_) (fun _ q => absurd a2 q))
    refine VS_icmp_eq 526 608 dL_law_526 rfl (fun _ => ?_) (fun q => absurd rfl q)
    exact VS_bud (by omega) (by omega) (kn _ _ _ _ _ _ _ _ _ _ _ _ _ (by omega) (by omega) hC hMA hR)
  · refine VS_aload_n 517 dL_law_517 rfl ?_
    refine VS_aload_n 518 dL_law_518 rfl ?_
    refine VS_iload_n 519 dL_law_519 rfl ?_
    refine VS_iconstv 520 (1) dL_law_520 (by decide) ?_
    refine VS_iadd 521 dL_law_521 ?_
    refine VS_topi (nI (I + 1)) (nI_add I 1) ?_
    refine VS_sld 522 (I + 1) (nI_clamp (by omega)) dL_law_522 (vp_in_nI (by omega) (by omega)) ?_
    refine VS_iv1 523 dL_law_523 kvL_76 rfl hMA.1 rfl rfl (c_X6_sit ⟨hMA, Fr.rf⟩ hR (fun q => absurd a1 q) (fun _ q => absurd q a2) (fun _ _ h2 M1 hM2 hR2 => ?_))
    replace hC := hC.frO hM2.2 (Or.inr (Nat.le_refl _))
    replace hMA := hM2.1
    replace hR := hR2
    refine VS_icmp_eq 526 608 dL_law_526 rfl (fun _ => ?_) (fun q => absurd rfl q)
    exact VS_bud (by omega) (by omega) (kn _ _ _ _ _ _ _ _ _ _ _ _ _ (by omega) (by omega) hC hMA hR)
set_option maxHeartbeats 1000000 in
set_option maxRecDepth 100000 in
theorem law_chance (hC : CA G h x X Q Qd E Et nx hs K S) (hMA : MA G h (x + 138) M) (hR : REL B X Q E nx hs K M) (hB : 1 ≤ B ∧ B < 2 ^ 28) (hI : I + 5 ≤ z.2.1) (hL : z.2.1 ≤ 2560) (kn : ∀ (h : hpT) (sz B1 : Nat) (X : TX) (Q Qd : RG) (E Et : ET) (nx hs : Nat) (K : Nat → ET) (S : FT × (Nat → ET)) (M : MT), 1 ≤ B1 → B1 ≤ B + 300 → CA G h x X Q Qd E Et nx hs K S → MA G h (x + 138) M → REL B1 X Q E nx hs K M → VS z l G RL cL_law 4 (some .boolean) false 11 (5 * n) (30 * n) Post 608 [some (.ref z.1), some (.ref x), some (.ref (x + 138)), some (.int (nI I))] [] h sz) : VS z l G RL cL_law 4 (some .boolean) false 11 (5 * n + 5) (30 * n + 30) Post 531 [some (.ref z.1), some (.ref x), some (.ref (x + 138)), some (.int (nI I))] [] h sz := by
  refine VS_sz hMA.2.2.2.2.2.2.2.2.2.2 (fun hsz => ?_)
  refine VS_aload_n 531 dL_law_531 rfl ?_
  refine VS_aload_n 532 dL_law_532 rfl ?_
  refine VS_iload_n 533 dL_law_533 rfl ?_
  refine VS_iconstv 534 (1) dL_law_534 (by decide) ?_
  refine VS_iadd 535 dL_law_535 ?_
  refine VS_topi (nI (I + 1)) (nI_add I 1) ?_
  refine VS_sld 536 (I + 1) (nI_clamp (by omega)) dL_law_536 (vp_in_nI (by omega) (by omega)) ?_
  refine VS_aload_n 537 dL_law_537 rfl ?_
  refine VS_iload_n 538 dL_law_538 rfl ?_
  refine VS_iconstv 539 (2) dL_law_539 (by decide) ?_
  refine VS_iadd 540 dL_law_540 ?_
  refine VS_topi (nI (I + 2)) (nI_add I 2) ?_
  refine VS_sld 541 (I + 2) (nI_clamp (by omega)) dL_law_541 (vp_in_nI (by omega) (by omega)) ?_
  refine VS_aload_n 542 dL_law_542 rfl ?_
  refine VS_iload_n 543 dL_law_543 rfl ?_
  refine VS_iconstv 544 (3) dL_law_544 (by decide) ?_
  refine VS_iadd 545 dL_law_545 ?_
  refine VS_topi (nI (I + 3)) (nI_add I 3) ?_
  refine VS_sld 546 (I + 3) (nI_clamp (by omega)) dL_law_546 (vp_in_nI (by omega) (by omega)) ?_
  refine VS_aload_n 547 dL_law_547 rfl ?_
  refine VS_iload_n 548 dL_law_548 rfl ?_
  refine VS_iconstv 549 (4) dL_law_549 (by decide) ?_
  refine VS_iadd 550 dL_law_550 ?_
  refine VS_topi (nI (I + 4)) (nI_add I 4) ?_
  refine VS_sld 551 (I + 4) (nI_clamp (by omega)) dL_law_551 (vp_in_nI (by omega) (by omega)) ?_
  refine VS_callV (kc1 := 5) (ks1 := 30) (kc := 5 * n) (ks := 30 * n) 552 (As := [.int (z.2.2 (I + 1)), .int (z.2.2 (I + 2)), .int (z.2.2 (I + 3)), .int (z.2.2 (I + 4))]) dL_law_552 kvL_77 hC.1 rfl rfl rfl rfl rfl (c_X5_chance (fun a0 => ?_) (fun c1 M3 aC aM e1 e2 e3 am aw h1 sz1 hlo => ?_))
  · refine VS_aload_n 555 dL_law_555 rfl ?_
    refine VS_aload_n 556 dL_law_556 rfl ?_
    refine VS_iload_n 557 dL_law_557 rfl ?_
    refine VS_iconstv 558 (1) dL_law_558 (by decide) ?_
    refine VS_iadd 559 dL_law_559 ?_
    refine VS_topi (nI (I + 1)) (nI_add I 1) ?_
    refine VS_sld 560 (I + 1) (nI_clamp (by omega)) dL_law_560 (vp_in_nI (by omega) (by omega)) ?_
    refine VS_aload_n 561 dL_law_561 rfl ?_
    refine VS_iload_n 562 dL_law_562 rfl ?_
    refine VS_iconstv 563 (2) dL_law_563 (by decide) ?_
    refine VS_iadd 564 dL_law_564 ?_
    refine VS_topi (nI (I + 2)) (nI_add I 2) ?_
    refine VS_sld 565 (I + 2) (nI_clamp (by omega)) dL_law_565 (vp_in_nI (by omega) (by omega)) ?_
    refine VS_aload_n 566 dL_law_566 rfl ?_
    refine VS_iload_n 567 dL_law_567 rfl ?_
    refine VS_iconstv 568 (3) dL_law_568 (by decide) ?_
    refine VS_iadd 569 dL_law_569 ?_
    refine VS_topi (nI (I + 3)) (nI_add I 3) ?_
    refine VS_sld 570 (I + 3) (nI_clamp (by omega)) dL_law_570 (vp_in_nI (by omega) (by omega)) ?_
    refine VS_aload_n 571 dL_law_571 rfl ?_
    refine VS_iload_n 572 dL_law_572 rfl ?_
    refine VS_iconstv 573 (4) dL_law_573 (by decide) ?_
    refine VS_iadd 574 dL_law_574 ?_
    refine VS_topi (nI (I + 4)) (nI_add I 4) ?_
    refine VS_sld 575 (I + 4) (nI_clamp (by omega)) dL_law_575 (vp_in_nI (by omega) (by omega)) ?_
    refine VS_iv4 576 dL_law_576 kvL_81 rfl hMA.1 rfl rfl (c_X6_chance ⟨hMA, Fr.rf⟩ hR (fun _ => ?_) (fun d0 M0 bD bM f1 f2 f3 bm bw => absurd ⟨bm, ch_d bD f1 f2, ch_k bM f3, bw⟩ a0))
    refine VS_lcmp 579 dL_law_579 ?_
    refine VS_if_eq 580 608 dL_law_580 rfl (fun _ => ?_) (fun q => absurd ((lg_cmp_eq _ _).mpr rfl) q)
    exact VS_bud (by omega) (by omega) (kn _ _ _ _ _ _ _ _ _ _ _ _ _ (by omega) (by omega) hC hMA hR)
  · refine VS_aload_n 555 dL_law_555 rfl ?_
    refine VS_aload_n 556 dL_law_556 rfl ?_
    refine VS_iload_n 557 dL_law_557 rfl ?_
    refine VS_iconstv 558 (1) dL_law_558 (by decide) ?_
    refine VS_iadd 559 dL_law_559 ?_
    refine VS_topi (nI (I + 1)) (nI_add I 1) ?_
    refine VS_sld 560 (I + 1) (nI_clamp (by omega)) dL_law_560 (vp_in_nI (by omega) (by omega)) ?_
    refine VS_aload_n 561 dL_law_561 rfl ?_
    refine VS_iload_n 562 dL_law_562 rfl ?_
    refine VS_iconstv 563 (2) dL_law_563 (by decide) ?_
    refine VS_iadd 564 dL_law_564 ?_
    refine VS_topi (nI (I + 2)) (nI_add I 2) ?_
    refine VS_sld 565 (I + 2) (nI_clamp (by omega)) dL_law_565 (vp_in_nI (by omega) (by omega)) ?_
    refine VS_aload_n 566 dL_law_566 rfl ?_
    refine VS_iload_n 567 dL_law_567 rfl ?_
    refine VS_iconstv 568 (3) dL_law_568 (by decide) ?_
    refine VS_iadd 569 dL_law_569 ?_
    refine VS_topi (nI (I + 3)) (nI_add I 3) ?_
    refine VS_sld 570 (I + 3) (nI_clamp (by omega)) dL_law_570 (vp_in_nI (by omega) (by omega)) ?_
    refine VS_aload_n 571 dL_law_571 rfl ?_
    refine VS_iload_n 572 dL_law_572 rfl ?_
    refine VS_iconstv 573 (4) dL_law_573 (by decide) ?_
    refine VS_iadd 574 dL_law_574 ?_
    refine VS_topi (nI (I + 4)) (nI_add I 4) ?_
    refine VS_sld 575 (I + 4) (nI_clamp (by omega)) dL_law_575 (vp_in_nI (by omega) (by omega)) ?_
    replace hMA := hMA.lo hlo (by omega)
    replace hC := hC.lo hlo (by omega)
    refine VS_iv4 576 dL_law_576 kvL_81 rfl hMA.1 rfl rfl (c_X6_chance ⟨hMA, Fr.rf⟩ hR (fun q => absurd ⟨am, ch_d aC e1 e2, ch_k aM e3, aw⟩ q) (fun d0 M0 bD bM f1 f2 f3 bm bw h2 M1 hM2 hR2 => ?_))
    obtain rfl : d0 = c1 := (nI_eq (by omega) (by omega)).mp (bD.symm.trans aC)
    obtain rfl : M0 = M3 := (nI_eq (by omega) (by omega)).mp (bM.symm.trans aM)
    replace hC := hC.frO hM2.2 (Or.inr (Nat.le_refl _))
    replace hMA := hM2.1
    replace hR := hR2
    refine VS_lcmp 579 dL_law_579 ?_
    refine VS_if_eq 580 608 dL_law_580 rfl (fun _ => ?_) (fun q => absurd ((lg_cmp_eq _ _).mpr rfl) q)
    exact VS_bud (by omega) (by omega) (kn _ _ _ _ _ _ _ _ _ _ _ _ _ (by omega) (by omega) hC hMA hR)
set_option maxHeartbeats 1000000 in
set_option maxRecDepth 100000 in
theorem law_count (hC : CA G h x X Q Qd E Et nx hs K S) (hMA : MA G h (x + 138) M) (hR : REL B X Q E nx hs K M) (hB : 1 ≤ B ∧ B < 2 ^ 28) (hI : I + 5 ≤ z.2.1) (hL : z.2.1 ≤ 2560) (kn : ∀ (h : hpT) (sz B1 : Nat) (X : TX) (Q Qd : RG) (E Et : ET) (nx hs : Nat) (K : Nat → ET) (S : FT × (Nat → ET)) (M : MT), 1 ≤ B1 → B1 ≤ B + 300 → CA G h x X Q Qd E Et nx hs K S → MA G h (x + 138) M → REL B1 X Q E nx hs K M → VS z l G RL cL_law 4 (some .boolean) false 11 (5 * n) (30 * n) Post 608 [some (.ref z.1), some (.ref x), some (.ref (x + 138)), some (.int (nI I))] [] h sz) : VS z l G RL cL_law 4 (some .boolean) false 11 (5 * n + 5) (30 * n + 30) Post 585 [some (.ref z.1), some (.ref x), some (.ref (x + 138)), some (.int (nI I))] [] h sz := by
  refine VS_aload_n 585 dL_law_585 rfl ?_
  refine VS_aload_n 586 dL_law_586 rfl ?_
  refine VS_iload_n 587 dL_law_587 rfl ?_
  refine VS_iconstv 588 (1) dL_law_588 (by decide) ?_
  refine VS_iadd 589 dL_law_589 ?_
  refine VS_topi (nI (I + 1)) (nI_add I 1) ?_
  refine VS_sld 590 (I + 1) (nI_clamp (by omega)) dL_law_590 (vp_in_nI (by omega) (by omega)) ?_
  refine VS_iv1 591 dL_law_591 kvL_82 rfl hC.1 rfl rfl (c_X5_count hC ?_)
  · refine VS_aload_n 594 dL_law_594 rfl ?_
    refine VS_aload_n 595 dL_law_595 rfl ?_
    refine VS_iload_n 596 dL_law_596 rfl ?_
    refine VS_iconstv 597 (1) dL_law_597 (by decide) ?_
    refine VS_iadd 598 dL_law_598 ?_
    refine VS_topi (nI (I + 1)) (nI_add I 1) ?_
    refine VS_sld 599 (I + 1) (nI_clamp (by omega)) dL_law_599 (vp_in_nI (by omega) (by omega)) ?_
    refine VS_iv1 600 dL_law_600 kvL_85 rfl hMA.1 rfl rfl (c_X6_count ⟨hMA, Fr.rf⟩ hR ?_)
    refine VS_icmp_eq 603 608 dL_law_603 rfl (fun _ => ?_) (fun q => absurd rfl q)
    exact VS_bud (by omega) (by omega) (kn _ _ _ _ _ _ _ _ _ _ _ _ _ (by omega) (by omega) hC hMA hR)
end M51
