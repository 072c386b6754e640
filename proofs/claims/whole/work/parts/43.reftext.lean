/-- the text alone -/
def TXR (X : TX) (M : MT) : Prop := M.1 14 = nI X.1 ∧ X.1 ≤ 40 ∧ ∀ k, k < X.1 → M.2.2.1 4 k = X.2.1 k ∧ 0 ≤ X.2.1 k ∧ X.2.1 k ≤ 255
def RFm (M0 M : MT) : Prop := (∀ j, j < 16 ∨ 20 < j → M.1 j = M0.1 j) ∧ M.2 = M0.2
theorem RFm.rf {M : MT} : RFm M M := ⟨fun _ _ => rfl, rfl⟩
theorem RFm.tr {M M1 M2 : MT} (h : RFm M M1) (g : RFm M1 M2) : RFm M M2 := ⟨fun j hj => (g.1 j hj).trans (h.1 j hj), g.2.trans h.2⟩
theorem RFm.i {M0 M : MT} (h : RFm M0 M) {k : Nat} {x : Int32} (h1 : 16 ≤ k) (h2 : k ≤ 20) : RFm M0 (mI M k x) := ⟨fun j hj => (va_up_ne _ _ (by omega)).trans (h.1 j hj), h.2⟩
theorem TXR.of {X : TX} {M M1 : MT} (h : TXR X M) (g : RFm M M1) : TXR X M1 := by
  unfold TXR
  rw [g.1 14 (by omega), g.2]
  exact h
/-- the reference has read the token that the class finds -/
def TK (X : TX) (M : MT) : Prop := M.1 17 = nI (tkA X) ∧ M.1 16 = nI (ftX X).2.2.2.2 ∧ (X.1 ≤ tkA X → M.1 20 = -1) ∧ (tkA X < X.1 → dgB (X.2.1 (tkA X)) = true → M.1 20 = 0 ∧ M.1 18 = nI (tkB X - tkA X) ∧ (tkB X - tkA X ≤ 2 → M.1 19 = tvX (ftX X))) ∧ (tkA X < X.1 → dgB (X.2.1 (tkA X)) = false → M.1 20 = if X.2.1 (tkA X) = 0 then 1 else X.2.1 (tkA X))
theorem tkA_le (X : TX) : tkA X ≤ X.1 := fiN_le _ _
theorem tkB_le (X : TX) : tkB X ≤ X.1 := fiN_le _ _
theorem ft_end (X : TX) (h : tkA X < X.1) : tkA X < (ftX X).2.2.2.2 ∧ (ftX X).2.2.2.2 ≤ X.1 := by
  have h1 := tkB_ge X
  have h2 := tkB_le X
  show tkA X < (if tkB X = tkA X ∧ tkA X < X.1 then tkA X + 1 else tkB X) ∧ (if tkB X = tkA X ∧ tkA X < X.1 then tkA X + 1 else tkB X) ≤ X.1
  split <;> omega
theorem dg_f {b : Int32} (h : dgB b = true) : ¬ b = 114 ∧ ¬ b = 98 ∧ ¬ b = 59 := by
  have a := Bool.and_eq_true_iff.mp h
  have h1 : b ≤ 57 := of_decide_eq_true a.2
  refine ⟨fun q => ?_, fun q => ?_, fun q => ?_⟩ <;> rw [q] at h1 <;> exact absurd h1 (by decide)
theorem TK.tok {X : TX} {M : MT} (h : TK X M) (hX : TXR X M) : (M.1 20 = 0 ↔ (tkA X < X.1 ∧ dgB (X.2.1 (tkA X)) = true)) ∧ (M.1 20 = 114 ↔ (tkA X < X.1 ∧ X.2.1 (tkA X) = 114)) ∧ (M.1 20 = 98 ↔ (tkA X < X.1 ∧ X.2.1 (tkA X) = 98)) ∧ (M.1 20 = 59 ↔ (tkA X < X.1 ∧ X.2.1 (tkA X) = 59)) ∧ (M.1 20 = -1 ↔ X.1 ≤ tkA X) := by
  obtain ⟨-, -, e, d, b⟩ := h
  by_cases c : tkA X < X.1
  · have hb := hX.2.2 _ c
    cases dg : dgB (X.2.1 (tkA X)) with
    | true =>
      have f := dg_f dg
      rw [(d c dg).1]
      exact ⟨iff_of_true rfl ⟨c, rfl⟩, iff_of_false (by decide) (fun q => f.1 q.2), iff_of_false (by decide) (fun q => f.2.1 q.2), iff_of_false (by decide) (fun q => f.2.2 q.2), iff_of_false (by decide) (by omega)⟩
    | false =>
      rw [b c dg]
      by_cases z : X.2.1 (tkA X) = 0
      · rw [if_pos z, z]
        exact ⟨iff_of_false (by decide) (fun q => absurd q.2 (by decide)), iff_of_false (by decide) (fun q => absurd q.2 (by decide)), iff_of_false (by decide) (fun q => absurd q.2 (by decide)), iff_of_false (by decide) (fun q => absurd q.2 (by decide)), iff_of_false (by decide) (by omega)⟩
      · rw [if_neg z]
        refine ⟨iff_of_false z (fun q => absurd q.2 (by decide)), ⟨fun q => ⟨c, q⟩, fun q => q.2⟩, ⟨fun q => ⟨c, q⟩, fun q => q.2⟩, ⟨fun q => ⟨c, q⟩, fun q => q.2⟩, iff_of_false (fun q => ?_) (by omega)⟩
        rw [q] at hb
        exact absurd hb.2.1 (by decide)
  · rw [e (by omega)]
    exact ⟨iff_of_false (by decide) (fun q => c q.1), iff_of_false (by decide) (fun q => c q.1), iff_of_false (by decide) (fun q => c q.1), iff_of_false (by decide) (fun q => c q.1), iff_of_true rfl (by omega)⟩
theorem V_putMF {l : Launch} {G : zGT} {own : String} {cc : ByteArray} {nL : Nat} {rt : Option FieldType} {ini : Bool} {d kc ks : Nat} {Post : Option Value → hpT → Nat → Prop} {lv : List (Option Value)} {st : List Value} {h h0 : hpT} {sz m : Nat} {M M0 : MT} (pc : Nat) {idx k : Nat} {x : Int32} (hd : decode cc pc = .ok (.putfield idx, 3)) (hf : zFp own idx 6 k .int false) (hM : WM G h0 h m M) (hF : RFm M0 M) (h1 : 16 ≤ k) (h2 : k ≤ 20) (hk : (fM m M).set k (.int x) = fM m (mI M k x)) (hb : Nat.blt k 31 = true) (kk : ∀ h, WM G h0 h m (mI M k x) → RFm M0 (mI M k x) → V l G own cc nL rt ini d kc ks Post (pc + 3) lv st h sz) : V l G own cc nL rt ini d kc ks Post pc lv (.int x :: .ref m :: st) h sz := V_putM pc hd hf hM hk hb (fun h hM => kk h hM (hF.i h1 h2))
section M43
variable {X : TX}
variable {l : Launch} {G : zGT} {h h0 : hpT} {sz : Nat} {Post : Option Value → hpT → Nat → Prop} {m r : Nat} {M M0 : MT} {Q : RG} {E : ET}
set_option maxHeartbeats 1000000 in
set_option maxRecDepth 100000 in
theorem c_X6_isDigit (hM : WM G h0 h m M) (hX : TXR X M) (i : Nat) (hi : i ≤ X.1) (k1 : (i < X.1 ∧ dgB (X.2.1 i) = true) → Post (some (.int 1)) h sz) (k0 : ¬ (i < X.1 ∧ dgB (X.2.1 i) = true) → Post (some (.int 0)) h sz) : Cn l G yX6_isDigit cX6_isDigit 2 (some .boolean) 1 0 0 [.ref m, .int (nI i)] h sz Post := by
  refine Cn.of RX6 false (by decide) rfl (fun q => by cases q) (Nat.le_of_ble_eq_true rfl) ?_
  have h40 := hX.2.1
  refine V_iload_n 0 dX6_isDigit_0 rfl ?_
  refine V_aload_n 1 dX6_isDigit_1 rfl ?_
  refine V_get 2 dX6_isDigit_2 fdX6_162 (by first | exact hM.1.1 | exact hM.1.2.1 | exact hM.1.2.2.1 | exact hM.1.2.2.2.1 | exact hM.1.2.2.2.2.1 | exact hM.1.2.2.2.2.2.1 | exact hM.1.2.2.2.2.2.2.1 | exact hM.1.2.2.2.2.2.2.2.1 | exact hM.1.2.2.2.2.2.2.2.2.1 | exact hM.1.2.2.2.2.2.2.2.2.2.1 | exact hM.1.2.2.2.2.2.2.2.2.2.2) rfl ?_
  refine V_topi (nI X.1) hX.1 ?_
  refine V_icmp_ge 5 31 dX6_isDigit_5 rfl (fun c_5 => ?_) (fun c_5 => ?_)
  · have e1 : ¬ i < X.1 := fun q => nI_ge q (by omega) c_5
    refine V_iconstv 31 (0) dX6_isDigit_31 (by decide) ?_
    refine V_zret 32 dX6_isDigit_32 (Or.inl rfl) ?_
    first | exact k0 (fun q => e1 q.1) | exact k0 (fun q => c_21 ((fun z => ⟨of_decide_eq_true z.1, of_decide_eq_true z.2⟩) (Bool.and_eq_true_iff.mp q.2)))
  · have e1 : i < X.1 := Nat.lt_of_not_le (fun q => c_5 (nI_le q (by omega)))
    refine V_aload_n 8 dX6_isDigit_8 rfl ?_
    refine V_get 9 dX6_isDigit_9 fdX6_19 (by first | exact hM.1.1 | exact hM.1.2.1 | exact hM.1.2.2.1 | exact hM.1.2.2.2.1 | exact hM.1.2.2.2.2.1 | exact hM.1.2.2.2.2.2.1 | exact hM.1.2.2.2.2.2.2.1 | exact hM.1.2.2.2.2.2.2.2.1 | exact hM.1.2.2.2.2.2.2.2.2.1 | exact hM.1.2.2.2.2.2.2.2.2.2.1 | exact hM.1.2.2.2.2.2.2.2.2.2.2) rfl ?_
    refine V_iload_n 12 dX6_isDigit_12 rfl ?_
    refine V_ialdk 13 i (nI_clamp (by omega)) dX6_isDigit_13 (by first | exact hM.1.1 | exact hM.1.2.1 | exact hM.1.2.2.1 | exact hM.1.2.2.2.1 | exact hM.1.2.2.2.2.1 | exact hM.1.2.2.2.2.2.1 | exact hM.1.2.2.2.2.2.2.1 | exact hM.1.2.2.2.2.2.2.2.1 | exact hM.1.2.2.2.2.2.2.2.2.1 | exact hM.1.2.2.2.2.2.2.2.2.2.1 | exact hM.1.2.2.2.2.2.2.2.2.2.2) (vp_in_nI (by omega) (by decide)) ?_
    refine V_topi (X.2.1 i) (hX.2.2 i e1).1 ?_
    refine V_i2l 14 dX6_isDigit_14 ?_
    refine V_ldc2 15 dX6_isDigit_15 knX6_166 ?_
    refine V_ldc2 18 dX6_isDigit_18 knX6_168 ?_
    refine V_is3 21 dX6_isDigit_21 ksX6_45 rfl rfl (c_X6_inI (lo := 48) (hi := 57) rfl rfl (fun c_21 => ?_) (fun c_21 => ?_))
    · refine V_if_eq 24 31 dX6_isDigit_24 rfl (fun q => absurd q (by decide)) (fun _ => ?_)
      refine V_iconstv 27 (1) dX6_isDigit_27 (by decide) ?_
      refine V_goto 28 32 dX6_isDigit_28 rfl ?_
      refine V_zret 32 dX6_isDigit_32 (Or.inr rfl) ?_
      exact k1 ⟨e1, Bool.and_eq_true_iff.mpr ⟨decide_eq_true c_21.1, decide_eq_true c_21.2⟩⟩
    · refine V_if_eq 24 31 dX6_isDigit_24 rfl (fun _ => ?_) (fun q => absurd q (by decide))
      refine V_iconstv 31 (0) dX6_isDigit_31 (by decide) ?_
      refine V_zret 32 dX6_isDigit_32 (Or.inl rfl) ?_
      first | exact k0 (fun q => e1 q.1) | exact k0 (fun q => c_21 ((fun z => ⟨of_decide_eq_true z.1, of_decide_eq_true z.2⟩) (Bool.and_eq_true_iff.mp q.2)))
theorem tkB_at {X : TX} {j : Nat} (hj : tkA X + j ≤ X.1) (hd : ∀ q, tkA X ≤ q → q < tkA X + j → dgB (X.2.1 q) = true) (hn : ¬ (tkA X + j < X.1 ∧ dgB (X.2.1 (tkA X + j)) = true)) : tkB X = tkA X + j := by
  have no : ∀ q, q < tkA X + j → ¬ ndB X (tkA X) q = true := fun q hq z => by
    have a := Bool.and_eq_true_iff.mp z
    have b := hd q (of_decide_eq_true a.1) hq
    rw [b] at a
    exact absurd a.2 (by decide)
  by_cases e : tkA X + j < X.1
  · refine fiN_some ?_ no e
    refine Bool.and_eq_true_iff.mpr ⟨decide_eq_true (by omega), ?_⟩
    cases z : dgB (X.2.1 (tkA X + j)) with
    | true => exact absurd ⟨e, z⟩ hn
    | false => rfl
  · have e2 := fiN_none (p := ndB X (tkA X)) (n := X.1) (fun q hq => no q (by omega))
    unfold tkB
    omega
theorem TKb {X : TX} {M M1 : MT} {j : Nat} (hX : TXR X M) (ha : tkA X < X.1) (hd : ∀ q, tkA X ≤ q → q < tkA X + j → dgB (X.2.1 q) = true) (hn : ¬ (tkA X + j < X.1 ∧ dgB (X.2.1 (tkA X + j)) = true)) (j0 : j = 0) (h17 : M1.1 17 = nI (tkA X)) (h16 : M1.1 16 = nI (tkA X + 1)) (h20 : M1.1 20 = if X.2.1 (tkA X) = 0 then 1 else X.2.1 (tkA X)) : TK X M1 := by
  subst j0
  have e := tkB_at (by omega) hd hn
  rw [Nat.add_zero] at e hn
  have dg : dgB (X.2.1 (tkA X)) = false := Bool.eq_false_iff.mpr (fun q => hn ⟨ha, q⟩)
  refine ⟨h17, ?_, fun q => absurd q (by omega), fun _ q => absurd q (by rw [dg]; decide), fun _ _ => h20⟩
  rw [h16]
  show _ = nI (if tkB X = tkA X ∧ tkA X < X.1 then tkA X + 1 else tkB X)
  rw [if_pos ⟨e, ha⟩]
theorem TKd {X : TX} {M M1 : MT} {j : Nat} (hj : tkA X + j ≤ X.1) (hX : TXR X M) (ha : tkA X < X.1) (hd : ∀ q, tkA X ≤ q → q < tkA X + j → dgB (X.2.1 q) = true) (hn : ¬ (tkA X + j < X.1 ∧ dgB (X.2.1 (tkA X + j)) = true)) (j0 : ¬ j = 0) (h17 : M1.1 17 = nI (tkA X)) (h16 : M1.1 16 = nI (tkA X + j)) (h20 : M1.1 20 = 0) (h18 : M1.1 18 = nI j) (h19 : j ≤ 2 → M1.1 19 = tvN (ftX X) j) : TK X M1 := by
  have e := tkB_at hj hd hn
  have dg : dgB (X.2.1 (tkA X)) = true := hd _ (Nat.le_refl _) (by omega)
  have ee : (ftX X).2.2.2.2 = tkA X + j := by
    show (if tkB X = tkA X ∧ tkA X < X.1 then tkA X + 1 else tkB X) = _
    rw [if_neg (by omega), e]
  refine ⟨h17, by rw [h16, ee], fun q => absurd q (by omega), fun _ _ => ⟨h20, ?_, fun q => ?_⟩, fun _ q => absurd dg (by rw [q]; decide)⟩
  · rw [h18, e, Nat.add_sub_cancel_left]
  · rw [e, Nat.add_sub_cancel_left] at q
    unfold tvX
    rw [ee, show (ftX X).2.2.2.1 = tkA X from rfl, Nat.add_sub_cancel_left]
    exact h19 q
set_option maxHeartbeats 1000000 in
set_option maxRecDepth 100000 in
theorem ld_X6_reads (hX : TXR X M0) (ha : tkA X < X.1) (k : ∀ h M1, WM G h0 h m M1 → RFm M0 M1 → TK X M1 → Post none h sz) : ∀ j, j ≤ X.1 - tkA X → (∀ q, tkA X ≤ q → q < tkA X + j → dgB (X.2.1 q) = true) → ∀ (h : hpT) (M : MT), WM G h0 h m M → RFm M0 M → M.1 16 = nI (tkA X + j) → M.1 18 = nI j → (j ≤ 2 → M.1 19 = tvN (ftX X) j) → M.1 20 = (if j = 0 then (if X.2.1 (tkA X) = 0 then 1 else X.2.1 (tkA X)) else 0) → M.1 17 = nI (tkA X) → V l G RX6 cX6_reads 1 none false 2 0 0 Post 102 [some (.ref m)] [] h sz := by
  have h40 := hX.2.1
  have tk0 : ¬ (if X.2.1 (tkA X) = 0 then (1 : Int32) else X.2.1 (tkA X)) = 0 := by
    split
    · decide
    · assumption
  refine up_ind (X.1 - tkA X) (fun j hj0 ih hd h M hM hF h16 h18 h19 h20 h17 => ?_)
  have hj : tkA X + j ≤ X.1 := by omega
  refine V_aload_n 102 dX6_reads_102 rfl ?_
  refine V_aload_n 103 dX6_reads_103 rfl ?_
  refine V_get 104 dX6_reads_104 fdX6_170 (by first | exact hM.1.1 | exact hM.1.2.1 | exact hM.1.2.2.1 | exact hM.1.2.2.2.1 | exact hM.1.2.2.2.2.1 | exact hM.1.2.2.2.2.2.1 | exact hM.1.2.2.2.2.2.2.1 | exact hM.1.2.2.2.2.2.2.2.1 | exact hM.1.2.2.2.2.2.2.2.2.1 | exact hM.1.2.2.2.2.2.2.2.2.2.1 | exact hM.1.2.2.2.2.2.2.2.2.2.2) rfl ?_
  refine V_topi (nI (tkA X + j)) h16 ?_
  refine V_iv1 107 dX6_reads_107 kvX6_185 rfl (by first | exact hM.1.1 | exact hM.1.2.1 | exact hM.1.2.2.1 | exact hM.1.2.2.2.1 | exact hM.1.2.2.2.2.1 | exact hM.1.2.2.2.2.2.1 | exact hM.1.2.2.2.2.2.2.1 | exact hM.1.2.2.2.2.2.2.2.1 | exact hM.1.2.2.2.2.2.2.2.2.1 | exact hM.1.2.2.2.2.2.2.2.2.2.1 | exact hM.1.2.2.2.2.2.2.2.2.2.2) rfl rfl (c_X6_isDigit hM (hX.of hF) (tkA X + j) (by omega) (fun c_107 => ?_) (fun c_107 => ?_))
  · refine V_if_eq 110 180 dX6_reads_110 rfl (fun q => absurd q (by decide)) (fun _ => ?_)
    refine V_aload_n 113 dX6_reads_113 rfl ?_
    refine V_aload_n 114 dX6_reads_114 rfl ?_
    refine V_get 115 dX6_reads_115 fdX6_179 (by first | exact hM.1.1 | exact hM.1.2.1 | exact hM.1.2.2.1 | exact hM.1.2.2.2.1 | exact hM.1.2.2.2.2.1 | exact hM.1.2.2.2.2.2.1 | exact hM.1.2.2.2.2.2.2.1 | exact hM.1.2.2.2.2.2.2.2.1 | exact hM.1.2.2.2.2.2.2.2.2.1 | exact hM.1.2.2.2.2.2.2.2.2.2.1 | exact hM.1.2.2.2.2.2.2.2.2.2.2) rfl ?_
    refine V_topi (nI j) h18 ?_
    refine V_iconstv 118 (2) dX6_reads_118 (by decide) ?_
    refine V_icmp_ge 119 145 dX6_reads_119 rfl (fun c_119 => ?_) (fun c_119 => ?_)
    · have hv : j + 1 ≤ 2 → M.1 19 = tvN (ftX X) (j + 1) := fun q => absurd ((nI_leI (a := 2) (by decide) (by omega)).mp c_119) (by omega)
      refine V_aload_n 145 dX6_reads_145 rfl ?_
      refine V_get 146 dX6_reads_146 fdX6_182 (by first | exact hM.1.1 | exact hM.1.2.1 | exact hM.1.2.2.1 | exact hM.1.2.2.2.1 | exact hM.1.2.2.2.2.1 | exact hM.1.2.2.2.2.2.1 | exact hM.1.2.2.2.2.2.2.1 | exact hM.1.2.2.2.2.2.2.2.1 | exact hM.1.2.2.2.2.2.2.2.2.1 | exact hM.1.2.2.2.2.2.2.2.2.2.1 | exact hM.1.2.2.2.2.2.2.2.2.2.2) rfl ?_
      refine V_putMF 149 dX6_reads_149 fpX6_182 hM hF (by omega) (by omega) rfl rfl (fun h hM hF => ?_)
      refine V_aload_n 152 dX6_reads_152 rfl ?_
      refine V_dupr 153 dX6_reads_153 ?_
      refine V_get 154 dX6_reads_154 fdX6_179 (by first | exact hM.1.1 | exact hM.1.2.1 | exact hM.1.2.2.1 | exact hM.1.2.2.2.1 | exact hM.1.2.2.2.2.1 | exact hM.1.2.2.2.2.2.1 | exact hM.1.2.2.2.2.2.2.1 | exact hM.1.2.2.2.2.2.2.2.1 | exact hM.1.2.2.2.2.2.2.2.2.1 | exact hM.1.2.2.2.2.2.2.2.2.2.1 | exact hM.1.2.2.2.2.2.2.2.2.2.2) rfl ?_
      refine V_topi (nI j) h18 ?_
      refine V_iconstv 157 (1) dX6_reads_157 (by decide) ?_
      refine V_iadd 158 dX6_reads_158 ?_
      refine V_topi (nI (j + 1)) (nI_1 j) ?_
      refine V_putMF 159 dX6_reads_159 fpX6_179 hM hF (by omega) (by omega) rfl rfl (fun h hM hF => ?_)
      refine V_aload_n 162 dX6_reads_162 rfl ?_
      refine V_dupr 163 dX6_reads_163 ?_
      refine V_get 164 dX6_reads_164 fdX6_170 (by first | exact hM.1.1 | exact hM.1.2.1 | exact hM.1.2.2.1 | exact hM.1.2.2.2.1 | exact hM.1.2.2.2.2.1 | exact hM.1.2.2.2.2.2.1 | exact hM.1.2.2.2.2.2.2.1 | exact hM.1.2.2.2.2.2.2.2.1 | exact hM.1.2.2.2.2.2.2.2.2.1 | exact hM.1.2.2.2.2.2.2.2.2.2.1 | exact hM.1.2.2.2.2.2.2.2.2.2.2) rfl ?_
      refine V_topi (nI (tkA X + j)) h16 ?_
      refine V_iconstv 167 (1) dX6_reads_167 (by decide) ?_
      refine V_iadd 168 dX6_reads_168 ?_
      refine V_topi (nI (tkA X + j + 1)) (nI_1 _) ?_
      refine V_putMF 169 dX6_reads_169 fpX6_170 hM hF (by omega) (by omega) rfl rfl (fun h hM hF => ?_)
      refine V_aload_n 172 dX6_reads_172 rfl ?_
      refine V_iconstv 173 (0) dX6_reads_173 (by decide) ?_
      refine V_putMF 174 dX6_reads_174 fpX6_176 hM hF (by omega) (by omega) rfl rfl (fun h hM hF => ?_)
      refine V_goto 177 102 dX6_reads_177 rfl ?_
      refine ih (j + 1) rfl (by omega) (fun q h1 h2 => if e : q = tkA X + j then e ▸ c_107.2 else hd q h1 (by omega)) h _ hM hF rfl rfl hv rfl h17
    · have hv : j + 1 ≤ 2 → 10 * M.1 19 + X.2.1 (tkA X + j) - 48 = tvN (ftX X) (j + 1) := fun q => by rw [h19 (by omega), Int32.mul_comm]; rfl
      refine V_bipushv 122 (10) dX6_reads_122 (by decide) ?_
      refine V_aload_n 124 dX6_reads_124 rfl ?_
      refine V_get 125 dX6_reads_125 fdX6_182 (by first | exact hM.1.1 | exact hM.1.2.1 | exact hM.1.2.2.1 | exact hM.1.2.2.2.1 | exact hM.1.2.2.2.2.1 | exact hM.1.2.2.2.2.2.1 | exact hM.1.2.2.2.2.2.2.1 | exact hM.1.2.2.2.2.2.2.2.1 | exact hM.1.2.2.2.2.2.2.2.2.1 | exact hM.1.2.2.2.2.2.2.2.2.2.1 | exact hM.1.2.2.2.2.2.2.2.2.2.2) rfl ?_
      refine V_imul 128 dX6_reads_128 ?_
      refine V_aload_n 129 dX6_reads_129 rfl ?_
      refine V_get 130 dX6_reads_130 fdX6_19 (by first | exact hM.1.1 | exact hM.1.2.1 | exact hM.1.2.2.1 | exact hM.1.2.2.2.1 | exact hM.1.2.2.2.2.1 | exact hM.1.2.2.2.2.2.1 | exact hM.1.2.2.2.2.2.2.1 | exact hM.1.2.2.2.2.2.2.2.1 | exact hM.1.2.2.2.2.2.2.2.2.1 | exact hM.1.2.2.2.2.2.2.2.2.2.1 | exact hM.1.2.2.2.2.2.2.2.2.2.2) rfl ?_
      refine V_aload_n 133 dX6_reads_133 rfl ?_
      refine V_get 134 dX6_reads_134 fdX6_170 (by first | exact hM.1.1 | exact hM.1.2.1 | exact hM.1.2.2.1 | exact hM.1.2.2.2.1 | exact hM.1.2.2.2.2.1 | exact hM.1.2.2.2.2.2.1 | exact hM.1.2.2.2.2.2.2.1 | exact hM.1.2.2.2.2.2.2.2.1 | exact hM.1.2.2.2.2.2.2.2.2.1 | exact hM.1.2.2.2.2.2.2.2.2.2.1 | exact hM.1.2.2.2.2.2.2.2.2.2.2) rfl ?_
      refine V_topi (nI (tkA X + j)) h16 ?_
      refine V_ialdk 137 (tkA X + j) (nI_clamp (by omega)) dX6_reads_137 (by first | exact hM.1.1 | exact hM.1.2.1 | exact hM.1.2.2.1 | exact hM.1.2.2.2.1 | exact hM.1.2.2.2.2.1 | exact hM.1.2.2.2.2.2.1 | exact hM.1.2.2.2.2.2.2.1 | exact hM.1.2.2.2.2.2.2.2.1 | exact hM.1.2.2.2.2.2.2.2.2.1 | exact hM.1.2.2.2.2.2.2.2.2.2.1 | exact hM.1.2.2.2.2.2.2.2.2.2.2) (vp_in_nI (by omega) (by decide)) ?_
      refine V_topi (X.2.1 (tkA X + j)) ((congrArg (fun z : Int64 × (Nat → Nat → Int32) × (Nat → Nat → Int64) => z.2.1 4 (tkA X + j)) hF.2).trans (hX.2.2 _ c_107.1).1) ?_
      refine V_iadd 138 dX6_reads_138 ?_
      refine V_bipushv 139 (48) dX6_reads_139 (by decide) ?_
      refine V_isub 141 dX6_reads_141 ?_
      refine V_goto 142 149 dX6_reads_142 rfl ?_
      refine V_putMF 149 dX6_reads_149 fpX6_182 hM hF (by omega) (by omega) rfl rfl (fun h hM hF => ?_)
      refine V_aload_n 152 dX6_reads_152 rfl ?_
      refine V_dupr 153 dX6_reads_153 ?_
      refine V_get 154 dX6_reads_154 fdX6_179 (by first | exact hM.1.1 | exact hM.1.2.1 | exact hM.1.2.2.1 | exact hM.1.2.2.2.1 | exact hM.1.2.2.2.2.1 | exact hM.1.2.2.2.2.2.1 | exact hM.1.2.2.2.2.2.2.1 | exact hM.1.2.2.2.2.2.2.2.1 | exact hM.1.2.2.2.2.2.2.2.2.1 | exact hM.1.2.2.2.2.2.2.2.2.2.1 | exact hM.1.2.2.2.2.2.2.2.2.2.2) rfl ?_
      refine V_topi (nI j) h18 ?_
      refine V_iconstv 157 (1) dX6_reads_157 (by decide) ?_
      refine V_iadd 158 dX6_reads_158 ?_
      refine V_topi (nI (j + 1)) (nI_1 j) ?_
      refine V_putMF 159 dX6_reads_159 fpX6_179 hM hF (by omega) (by omega) rfl rfl (fun h hM hF => ?_)
      refine V_aload_n 162 dX6_reads_162 rfl ?_
      refine V_dupr 163 dX6_reads_163 ?_
      refine V_get 164 dX6_reads_164 fdX6_170 (by first | exact hM.1.1 | exact hM.1.2.1 | exact hM.1.2.2.1 | exact hM.1.2.2.2.1 | exact hM.1.2.2.2.2.1 | exact hM.1.2.2.2.2.2.1 | exact hM.1.2.2.2.2.2.2.1 | exact hM.1.2.2.2.2.2.2.2.1 | exact hM.1.2.2.2.2.2.2.2.2.1 | exact hM.1.2.2.2.2.2.2.2.2.2.1 | exact hM.1.2.2.2.2.2.2.2.2.2.2) rfl ?_
      refine V_topi (nI (tkA X + j)) h16 ?_
      refine V_iconstv 167 (1) dX6_reads_167 (by decide) ?_
      refine V_iadd 168 dX6_reads_168 ?_
      refine V_topi (nI (tkA X + j + 1)) (nI_1 _) ?_
      refine V_putMF 169 dX6_reads_169 fpX6_170 hM hF (by omega) (by omega) rfl rfl (fun h hM hF => ?_)
      refine V_aload_n 172 dX6_reads_172 rfl ?_
      refine V_iconstv 173 (0) dX6_reads_173 (by decide) ?_
      refine V_putMF 174 dX6_reads_174 fpX6_176 hM hF (by omega) (by omega) rfl rfl (fun h hM hF => ?_)
      refine V_goto 177 102 dX6_reads_177 rfl ?_
      refine ih (j + 1) rfl (by omega) (fun q h1 h2 => if e : q = tkA X + j then e ▸ c_107.2 else hd q h1 (by omega)) h _ hM hF rfl rfl hv rfl h17
  · refine V_if_eq 110 180 dX6_reads_110 rfl (fun _ => ?_) (fun q => absurd q (by decide))
    refine V_aload_n 180 dX6_reads_180 rfl ?_
    refine V_dupr 181 dX6_reads_181 ?_
    refine V_get 182 dX6_reads_182 fdX6_170 (by first | exact hM.1.1 | exact hM.1.2.1 | exact hM.1.2.2.1 | exact hM.1.2.2.2.1 | exact hM.1.2.2.2.2.1 | exact hM.1.2.2.2.2.2.1 | exact hM.1.2.2.2.2.2.2.1 | exact hM.1.2.2.2.2.2.2.2.1 | exact hM.1.2.2.2.2.2.2.2.2.1 | exact hM.1.2.2.2.2.2.2.2.2.2.1 | exact hM.1.2.2.2.2.2.2.2.2.2.2) rfl ?_
    refine V_topi (nI (tkA X + j)) h16 ?_
    refine V_aload_n 185 dX6_reads_185 rfl ?_
    refine V_get 186 dX6_reads_186 fdX6_176 (by first | exact hM.1.1 | exact hM.1.2.1 | exact hM.1.2.2.1 | exact hM.1.2.2.2.1 | exact hM.1.2.2.2.2.1 | exact hM.1.2.2.2.2.2.1 | exact hM.1.2.2.2.2.2.2.1 | exact hM.1.2.2.2.2.2.2.2.1 | exact hM.1.2.2.2.2.2.2.2.2.1 | exact hM.1.2.2.2.2.2.2.2.2.2.1 | exact hM.1.2.2.2.2.2.2.2.2.2.2) rfl ?_
    refine V_if_ne 189 196 dX6_reads_189 rfl (fun c_189 => ?_) (fun c_189 => ?_)
    · have j0 : j = 0 := Classical.byContradiction (fun q => c_189 (by rw [if_neg q] at h20; exact h20))
      refine V_iconstv 196 (1) dX6_reads_196 (by decide) ?_
      refine V_iadd 197 dX6_reads_197 ?_
      refine V_putMF 198 dX6_reads_198 fpX6_170 hM hF (by omega) (by omega) rfl rfl (fun h hM hF => ?_)
      refine V_vret 201 dX6_reads_201 ?_
      first
      | exact k h _ hM hF (TKb hX ha hd c_107 j0 h17 (by rw [j0, Nat.add_zero]; exact nI_1 _) (by rw [j0, if_pos rfl] at h20; exact h20))
      | exact k h _ hM hF (TKd hj hX ha hd c_107 j0 h17 (by show nI (tkA X + j) + 0 = _; rw [show (0 : Int32) = nI 0 from rfl, nI_add, Nat.add_zero]) (by rw [if_neg j0] at h20; exact h20) h18 h19)
    · have j0 : ¬ j = 0 := fun q => tk0 (by rw [q, if_pos rfl] at h20; exact h20.symm.trans c_189)
      refine V_iconstv 192 (0) dX6_reads_192 (by decide) ?_
      refine V_goto 193 197 dX6_reads_193 rfl ?_
      refine V_iadd 197 dX6_reads_197 ?_
      refine V_putMF 198 dX6_reads_198 fpX6_170 hM hF (by omega) (by omega) rfl rfl (fun h hM hF => ?_)
      refine V_vret 201 dX6_reads_201 ?_
      first
      | exact k h _ hM hF (TKb hX ha hd c_107 j0 h17 (by rw [j0, Nat.add_zero]; exact nI_1 _) (by rw [j0, if_pos rfl] at h20; exact h20))
      | exact k h _ hM hF (TKd hj hX ha hd c_107 j0 h17 (by show nI (tkA X + j) + 0 = _; rw [show (0 : Int32) = nI 0 from rfl, nI_add, Nat.add_zero]) (by rw [if_neg j0] at h20; exact h20) h18 h19)
theorem TKe {X : TX} {M1 : MT} (ha : tkA X = X.1) (h17 : M1.1 17 = nI (tkA X)) (h16 : M1.1 16 = nI (tkA X)) (h20 : M1.1 20 = -1) : TK X M1 := by
  refine ⟨h17, ?_, fun _ => h20, fun q => absurd q (by omega), fun q => absurd q (by omega)⟩
  rw [h16]
  have h1 := tkB_ge X
  have h2 := tkB_le X
  show _ = nI (if tkB X = tkA X ∧ tkA X < X.1 then tkA X + 1 else tkB X)
  rw [if_neg (by omega), show tkB X = tkA X by omega]
set_option maxHeartbeats 1000000 in
set_option maxRecDepth 100000 in
theorem lt_X6_reads (hX : TXR X M0) (hM : WM G h0 h m M) (hF : RFm M0 M) (h16 : M.1 16 = nI (tkA X)) (k : ∀ h M1, WM G h0 h m M1 → RFm M0 M1 → TK X M1 → Post none h sz) : V l G RX6 cX6_reads 1 none false 2 0 0 Post 38 [some (.ref m)] [] h sz := by
  have h40 := hX.2.1
  have hA := tkA_le X
  refine V_aload_n 38 dX6_reads_38 rfl ?_
  refine V_aload_n 39 dX6_reads_39 rfl ?_
  refine V_get 40 dX6_reads_40 fdX6_170 (by first | exact hM.1.1 | exact hM.1.2.1 | exact hM.1.2.2.1 | exact hM.1.2.2.2.1 | exact hM.1.2.2.2.2.1 | exact hM.1.2.2.2.2.2.1 | exact hM.1.2.2.2.2.2.2.1 | exact hM.1.2.2.2.2.2.2.2.1 | exact hM.1.2.2.2.2.2.2.2.2.1 | exact hM.1.2.2.2.2.2.2.2.2.2.1 | exact hM.1.2.2.2.2.2.2.2.2.2.2) rfl ?_
  refine V_topi (nI (tkA X)) h16 ?_
  refine V_putMF 43 dX6_reads_43 fpX6_173 hM hF (by omega) (by omega) rfl rfl (fun h hM hF => ?_)
  refine V_aload_n 46 dX6_reads_46 rfl ?_
  refine V_get 47 dX6_reads_47 fdX6_170 (by first | exact hM.1.1 | exact hM.1.2.1 | exact hM.1.2.2.1 | exact hM.1.2.2.2.1 | exact hM.1.2.2.2.2.1 | exact hM.1.2.2.2.2.2.1 | exact hM.1.2.2.2.2.2.2.1 | exact hM.1.2.2.2.2.2.2.2.1 | exact hM.1.2.2.2.2.2.2.2.2.1 | exact hM.1.2.2.2.2.2.2.2.2.2.1 | exact hM.1.2.2.2.2.2.2.2.2.2.2) rfl ?_
  refine V_topi (nI (tkA X)) h16 ?_
  refine V_aload_n 50 dX6_reads_50 rfl ?_
  refine V_get 51 dX6_reads_51 fdX6_162 (by first | exact hM.1.1 | exact hM.1.2.1 | exact hM.1.2.2.1 | exact hM.1.2.2.2.1 | exact hM.1.2.2.2.2.1 | exact hM.1.2.2.2.2.2.1 | exact hM.1.2.2.2.2.2.2.1 | exact hM.1.2.2.2.2.2.2.2.1 | exact hM.1.2.2.2.2.2.2.2.2.1 | exact hM.1.2.2.2.2.2.2.2.2.2.1 | exact hM.1.2.2.2.2.2.2.2.2.2.2) rfl ?_
  refine V_topi (nI X.1) (hX.of hF).1 ?_
  refine V_icmp_ne 54 63 dX6_reads_54 rfl (fun c_54 => ?_) (fun c_54 => ?_)
  · have ha : tkA X < X.1 := Nat.lt_of_le_of_ne (tkA_le X) (fun q => c_54 (by rw [q]))
    refine V_aload_n 63 dX6_reads_63 rfl ?_
    refine V_aload_n 64 dX6_reads_64 rfl ?_
    refine V_get 65 dX6_reads_65 fdX6_19 (by first | exact hM.1.1 | exact hM.1.2.1 | exact hM.1.2.2.1 | exact hM.1.2.2.2.1 | exact hM.1.2.2.2.2.1 | exact hM.1.2.2.2.2.2.1 | exact hM.1.2.2.2.2.2.2.1 | exact hM.1.2.2.2.2.2.2.2.1 | exact hM.1.2.2.2.2.2.2.2.2.1 | exact hM.1.2.2.2.2.2.2.2.2.2.1 | exact hM.1.2.2.2.2.2.2.2.2.2.2) rfl ?_
    refine V_aload_n 68 dX6_reads_68 rfl ?_
    refine V_get 69 dX6_reads_69 fdX6_170 (by first | exact hM.1.1 | exact hM.1.2.1 | exact hM.1.2.2.1 | exact hM.1.2.2.2.1 | exact hM.1.2.2.2.2.1 | exact hM.1.2.2.2.2.2.1 | exact hM.1.2.2.2.2.2.2.1 | exact hM.1.2.2.2.2.2.2.2.1 | exact hM.1.2.2.2.2.2.2.2.2.1 | exact hM.1.2.2.2.2.2.2.2.2.2.1 | exact hM.1.2.2.2.2.2.2.2.2.2.2) rfl ?_
    refine V_topi (nI (tkA X)) h16 ?_
    refine V_ialdk 72 (tkA X) (nI_clamp (by omega)) dX6_reads_72 (by first | exact hM.1.1 | exact hM.1.2.1 | exact hM.1.2.2.1 | exact hM.1.2.2.2.1 | exact hM.1.2.2.2.2.1 | exact hM.1.2.2.2.2.2.1 | exact hM.1.2.2.2.2.2.2.1 | exact hM.1.2.2.2.2.2.2.2.1 | exact hM.1.2.2.2.2.2.2.2.2.1 | exact hM.1.2.2.2.2.2.2.2.2.2.1 | exact hM.1.2.2.2.2.2.2.2.2.2.2) (vp_in_nI (by omega) (by decide)) ?_
    refine V_topi (X.2.1 (tkA X)) ((hX.of hF).2.2 _ ha).1 ?_
    refine V_if_ne 73 80 dX6_reads_73 rfl (fun c_73 => ?_) (fun c_73 => ?_)
    · have e_t : X.2.1 (tkA X) = if X.2.1 (tkA X) = 0 then 1 else X.2.1 (tkA X) := (if_neg c_73).symm
      refine V_aload_n 80 dX6_reads_80 rfl ?_
      refine V_get 81 dX6_reads_81 fdX6_19 (by first | exact hM.1.1 | exact hM.1.2.1 | exact hM.1.2.2.1 | exact hM.1.2.2.2.1 | exact hM.1.2.2.2.2.1 | exact hM.1.2.2.2.2.2.1 | exact hM.1.2.2.2.2.2.2.1 | exact hM.1.2.2.2.2.2.2.2.1 | exact hM.1.2.2.2.2.2.2.2.2.1 | exact hM.1.2.2.2.2.2.2.2.2.2.1 | exact hM.1.2.2.2.2.2.2.2.2.2.2) rfl ?_
      refine V_aload_n 84 dX6_reads_84 rfl ?_
      refine V_get 85 dX6_reads_85 fdX6_170 (by first | exact hM.1.1 | exact hM.1.2.1 | exact hM.1.2.2.1 | exact hM.1.2.2.2.1 | exact hM.1.2.2.2.2.1 | exact hM.1.2.2.2.2.2.1 | exact hM.1.2.2.2.2.2.2.1 | exact hM.1.2.2.2.2.2.2.2.1 | exact hM.1.2.2.2.2.2.2.2.2.1 | exact hM.1.2.2.2.2.2.2.2.2.2.1 | exact hM.1.2.2.2.2.2.2.2.2.2.2) rfl ?_
      refine V_topi (nI (tkA X)) h16 ?_
      refine V_ialdk 88 (tkA X) (nI_clamp (by omega)) dX6_reads_88 (by first | exact hM.1.1 | exact hM.1.2.1 | exact hM.1.2.2.1 | exact hM.1.2.2.2.1 | exact hM.1.2.2.2.2.1 | exact hM.1.2.2.2.2.2.1 | exact hM.1.2.2.2.2.2.2.1 | exact hM.1.2.2.2.2.2.2.2.1 | exact hM.1.2.2.2.2.2.2.2.2.1 | exact hM.1.2.2.2.2.2.2.2.2.2.1 | exact hM.1.2.2.2.2.2.2.2.2.2.2) (vp_in_nI (by omega) (by decide)) ?_
      refine V_topi (X.2.1 (tkA X)) ((hX.of hF).2.2 _ ha).1 ?_
      refine V_topi _ e_t ?_
      refine V_putMF 89 dX6_reads_89 fpX6_176 hM hF (by omega) (by omega) rfl rfl (fun h hM hF => ?_)
      refine V_aload_n 92 dX6_reads_92 rfl ?_
      refine V_iconstv 93 (0) dX6_reads_93 (by decide) ?_
      refine V_putMF 94 dX6_reads_94 fpX6_179 hM hF (by omega) (by omega) rfl rfl (fun h hM hF => ?_)
      refine V_aload_n 97 dX6_reads_97 rfl ?_
      refine V_iconstv 98 (0) dX6_reads_98 (by decide) ?_
      refine V_putMF 99 dX6_reads_99 fpX6_182 hM hF (by omega) (by omega) rfl rfl (fun h hM hF => ?_)
      exact ld_X6_reads hX ha k 0 (Nat.zero_le _) (fun q h1 h2 => absurd h2 (by omega)) h _ hM hF (by rw [Nat.add_zero]; exact h16) rfl (fun _ => rfl) (by rw [if_pos rfl]; rfl) rfl
    · have e_t : 1 = if X.2.1 (tkA X) = 0 then 1 else X.2.1 (tkA X) := (if_pos c_73).symm
      refine V_iconstv 76 (1) dX6_reads_76 (by decide) ?_
      refine V_goto 77 89 dX6_reads_77 rfl ?_
      refine V_topi _ e_t ?_
      refine V_putMF 89 dX6_reads_89 fpX6_176 hM hF (by omega) (by omega) rfl rfl (fun h hM hF => ?_)
      refine V_aload_n 92 dX6_reads_92 rfl ?_
      refine V_iconstv 93 (0) dX6_reads_93 (by decide) ?_
      refine V_putMF 94 dX6_reads_94 fpX6_179 hM hF (by omega) (by omega) rfl rfl (fun h hM hF => ?_)
      refine V_aload_n 97 dX6_reads_97 rfl ?_
      refine V_iconstv 98 (0) dX6_reads_98 (by decide) ?_
      refine V_putMF 99 dX6_reads_99 fpX6_182 hM hF (by omega) (by omega) rfl rfl (fun h hM hF => ?_)
      exact ld_X6_reads hX ha k 0 (Nat.zero_le _) (fun q h1 h2 => absurd h2 (by omega)) h _ hM hF (by rw [Nat.add_zero]; exact h16) rfl (fun _ => rfl) (by rw [if_pos rfl]; rfl) rfl
  · have ha : tkA X = X.1 := (nI_eq (by omega) (by omega)).mp c_54
    refine V_aload_n 57 dX6_reads_57 rfl ?_
    refine V_iconstv 58 (-1) dX6_reads_58 (by decide) ?_
    refine V_putMF 59 dX6_reads_59 fpX6_176 hM hF (by omega) (by omega) rfl rfl (fun h hM hF => ?_)
    refine V_vret 62 dX6_reads_62 ?_
    exact k h _ hM hF (TKe ha rfl h16 rfl)
set_option maxHeartbeats 1000000 in
set_option maxRecDepth 100000 in
theorem lp_X6_reads (hX : TXR X M0) (k : ∀ h M1, WM G h0 h m M1 → RFm M0 M1 → TK X M1 → Post none h sz) : ∀ i, i ≤ X.1 → X.2.2.2.2 ≤ i → (∀ q, q < i → ¬ skB X X.2.2.2.2 q = true) → ∀ (h : hpT) (M : MT), WM G h0 h m M → RFm M0 M → M.1 16 = nI i → V l G RX6 cX6_reads 1 none false 2 0 0 Post 0 [some (.ref m)] [] h sz := by
  have h40 := hX.2.1
  refine up_ind X.1 (fun i hi ih hte hb h M hM hF h16 => ?_)
  refine V_aload_n 0 dX6_reads_0 rfl ?_
  refine V_get 1 dX6_reads_1 fdX6_170 (by first | exact hM.1.1 | exact hM.1.2.1 | exact hM.1.2.2.1 | exact hM.1.2.2.2.1 | exact hM.1.2.2.2.2.1 | exact hM.1.2.2.2.2.2.1 | exact hM.1.2.2.2.2.2.2.1 | exact hM.1.2.2.2.2.2.2.2.1 | exact hM.1.2.2.2.2.2.2.2.2.1 | exact hM.1.2.2.2.2.2.2.2.2.2.1 | exact hM.1.2.2.2.2.2.2.2.2.2.2) rfl ?_
  refine V_topi (nI i) h16 ?_
  refine V_aload_n 4 dX6_reads_4 rfl ?_
  refine V_get 5 dX6_reads_5 fdX6_162 (by first | exact hM.1.1 | exact hM.1.2.1 | exact hM.1.2.2.1 | exact hM.1.2.2.2.1 | exact hM.1.2.2.2.2.1 | exact hM.1.2.2.2.2.2.1 | exact hM.1.2.2.2.2.2.2.1 | exact hM.1.2.2.2.2.2.2.2.1 | exact hM.1.2.2.2.2.2.2.2.2.1 | exact hM.1.2.2.2.2.2.2.2.2.2.1 | exact hM.1.2.2.2.2.2.2.2.2.2.2) rfl ?_
  refine V_topi (nI X.1) (hX.of hF).1 ?_
  refine V_icmp_ge 8 38 dX6_reads_8 rfl (fun c_8 => ?_) (fun c_8 => ?_)
  · have e1 : i = X.1 := Nat.le_antisymm hi ((nI_leI (by omega) (by omega)).mp c_8)
    have eA : tkA X = i := by
      rw [e1]
      rw [e1] at hb
      exact fiN_none hb
    exact lt_X6_reads hX hM hF (by rw [eA]; exact h16) k
  · have e1 : i < X.1 := Nat.lt_of_not_le (fun q => c_8 (nI_le q (by omega)))
    refine V_aload_n 11 dX6_reads_11 rfl ?_
    refine V_get 12 dX6_reads_12 fdX6_19 (by first | exact hM.1.1 | exact hM.1.2.1 | exact hM.1.2.2.1 | exact hM.1.2.2.2.1 | exact hM.1.2.2.2.2.1 | exact hM.1.2.2.2.2.2.1 | exact hM.1.2.2.2.2.2.2.1 | exact hM.1.2.2.2.2.2.2.2.1 | exact hM.1.2.2.2.2.2.2.2.2.1 | exact hM.1.2.2.2.2.2.2.2.2.2.1 | exact hM.1.2.2.2.2.2.2.2.2.2.2) rfl ?_
    refine V_aload_n 15 dX6_reads_15 rfl ?_
    refine V_get 16 dX6_reads_16 fdX6_170 (by first | exact hM.1.1 | exact hM.1.2.1 | exact hM.1.2.2.1 | exact hM.1.2.2.2.1 | exact hM.1.2.2.2.2.1 | exact hM.1.2.2.2.2.2.1 | exact hM.1.2.2.2.2.2.2.1 | exact hM.1.2.2.2.2.2.2.2.1 | exact hM.1.2.2.2.2.2.2.2.2.1 | exact hM.1.2.2.2.2.2.2.2.2.2.1 | exact hM.1.2.2.2.2.2.2.2.2.2.2) rfl ?_
    refine V_topi (nI i) h16 ?_
    refine V_ialdk 19 i (nI_clamp (by omega)) dX6_reads_19 (by first | exact hM.1.1 | exact hM.1.2.1 | exact hM.1.2.2.1 | exact hM.1.2.2.2.1 | exact hM.1.2.2.2.2.1 | exact hM.1.2.2.2.2.2.1 | exact hM.1.2.2.2.2.2.2.1 | exact hM.1.2.2.2.2.2.2.2.1 | exact hM.1.2.2.2.2.2.2.2.2.1 | exact hM.1.2.2.2.2.2.2.2.2.2.1 | exact hM.1.2.2.2.2.2.2.2.2.2.2) (vp_in_nI (by omega) (by decide)) ?_
    refine V_topi (X.2.1 i) ((hX.of hF).2.2 _ e1).1 ?_
    refine V_bipushv 20 (32) dX6_reads_20 (by decide) ?_
    refine V_icmp_ne 22 38 dX6_reads_22 rfl (fun c_22 => ?_) (fun c_22 => ?_)
    · have eA : tkA X = i := fiN_some (Bool.and_eq_true_iff.mpr ⟨decide_eq_true hte, by simpa using c_22⟩) hb e1
      exact lt_X6_reads hX hM hF (by rw [eA]; exact h16) k
    · refine V_aload_n 25 dX6_reads_25 rfl ?_
      refine V_dupr 26 dX6_reads_26 ?_
      refine V_get 27 dX6_reads_27 fdX6_170 (by first | exact hM.1.1 | exact hM.1.2.1 | exact hM.1.2.2.1 | exact hM.1.2.2.2.1 | exact hM.1.2.2.2.2.1 | exact hM.1.2.2.2.2.2.1 | exact hM.1.2.2.2.2.2.2.1 | exact hM.1.2.2.2.2.2.2.2.1 | exact hM.1.2.2.2.2.2.2.2.2.1 | exact hM.1.2.2.2.2.2.2.2.2.2.1 | exact hM.1.2.2.2.2.2.2.2.2.2.2) rfl ?_
      refine V_topi (nI i) h16 ?_
      refine V_iconstv 30 (1) dX6_reads_30 (by decide) ?_
      refine V_iadd 31 dX6_reads_31 ?_
      refine V_topi (nI (i + 1)) (nI_1 i) ?_
      refine V_putMF 32 dX6_reads_32 fpX6_170 hM hF (by omega) (by omega) rfl rfl (fun h hM hF => ?_)
      refine V_goto 35 0 dX6_reads_35 rfl ?_
      refine ih (i + 1) rfl (by omega) (by omega) (fun q hq z => ?_) h _ hM hF rfl
      by_cases e : q = i
      · rw [e] at z
        exact absurd (Bool.and_eq_true_iff.mp z).2 (by simpa using c_22)
      · exact hb q (by omega) z
set_option maxHeartbeats 1000000 in
set_option maxRecDepth 100000 in
theorem c_X6_reads (hM : WM G h0 h m M) (hX : TXR X M) (hte : X.2.2.2.2 ≤ X.1) (h16 : M.1 16 = nI X.2.2.2.2) (k : ∀ h M1, WM G h0 h m M1 → RFm M M1 → TK X M1 → Post none h sz) : Cn l G yX6_reads cX6_reads 1 none 2 0 0 [.ref m] h sz Post := by
  refine Cn.of RX6 false (by decide) rfl (fun q => by cases q) (Nat.le_of_ble_eq_true rfl) ?_
  exact lp_X6_reads hX k X.2.2.2.2 hte (Nat.le_refl _) (fun q hq z => absurd (of_decide_eq_true (Bool.and_eq_true_iff.mp z).1) (by omega)) h M hM RFm.rf h16
set_option maxHeartbeats 1000000 in
set_option maxRecDepth 100000 in
theorem lp_X6_isTold (hM : WM G h0 h m M) {x : Int32} (n : Nat) (hn : n ≤ 6) (k : ∀ b : Bool, (b = true ↔ ∃ j, j < n ∧ M.2.2.1 5 j = x) → Post (some (.int (b2i b))) h sz) : ∀ i, i ≤ n → ∀ b : Bool, (b = true ↔ ∃ j, j < i ∧ M.2.2.1 5 j = x) → V l G RX6 cX6_isTold 5 (some .boolean) false 0 0 0 Post 5 [some (.ref m), some (.int x), some (.int (nI n)), some (.int (b2i b)), some (.int (nI i))] [] h sz := by
  refine up_ind n (fun i hi ih b hb => ?_)
  refine V_iload 5 dX6_isTold_5 rfl ?_
  refine V_iload_n 7 dX6_isTold_7 rfl ?_
  refine V_icmp_ge 8 38 dX6_isTold_8 rfl (fun c_8 => ?_) (fun c_8 => ?_)
  · have e1 : i = n := Nat.le_antisymm hi ((nI_leI (by omega) (by omega)).mp c_8)
    subst e1
    refine V_iload_n 38 dX6_isTold_38 rfl ?_
    refine V_zret 39 dX6_isTold_39 (b2i_01 b) ?_
    exact k b hb
  · have e1 : i < n := Nat.lt_of_not_le (fun q => c_8 (nI_le q (by omega)))
    refine V_iload_n 11 dX6_isTold_11 rfl ?_
    refine V_if_ne 12 26 dX6_isTold_12 rfl (fun c_12 => ?_) (fun c_12 => ?_)
    · have yb : ∃ j, j < i + 1 ∧ M.2.2.1 5 j = x := (hb.mp (b2i_n0 c_12)).elim (fun j hj => ⟨j, by omega, hj.2⟩)
      refine V_iconstv 26 (1) dX6_isTold_26 (by decide) ?_
      refine V_goto 27 31 dX6_isTold_27 rfl ?_
      refine V_istore_n 31 dX6_isTold_31 rfl rfl ?_
      refine V_iinc 32 (nI (i + 1)) dX6_isTold_32 rfl (nI_inc i) rfl rfl ?_
      refine V_goto 35 5 dX6_isTold_35 rfl ?_
      first
      | exact ih (i + 1) rfl (by omega) true (iff_of_true rfl yb)
      | exact ih (i + 1) rfl (by omega) false (iff_of_false (by decide) nb)
    · have nb0 : ¬ ∃ j, j < i ∧ M.2.2.1 5 j = x := fun q => absurd (hb.mpr q) (by rw [b2i_0 c_12]; decide)
      refine V_aload_n 15 dX6_isTold_15 rfl ?_
      refine V_get 16 dX6_isTold_16 fdX6_22 (by first | exact hM.1.1 | exact hM.1.2.1 | exact hM.1.2.2.1 | exact hM.1.2.2.2.1 | exact hM.1.2.2.2.2.1 | exact hM.1.2.2.2.2.2.1 | exact hM.1.2.2.2.2.2.2.1 | exact hM.1.2.2.2.2.2.2.2.1 | exact hM.1.2.2.2.2.2.2.2.2.1 | exact hM.1.2.2.2.2.2.2.2.2.2.1 | exact hM.1.2.2.2.2.2.2.2.2.2.2) rfl ?_
      refine V_iload 19 dX6_isTold_19 rfl ?_
      refine V_ialdk 21 i (nI_clamp (by omega)) dX6_isTold_21 (by first | exact hM.1.1 | exact hM.1.2.1 | exact hM.1.2.2.1 | exact hM.1.2.2.2.1 | exact hM.1.2.2.2.2.1 | exact hM.1.2.2.2.2.2.1 | exact hM.1.2.2.2.2.2.2.1 | exact hM.1.2.2.2.2.2.2.2.1 | exact hM.1.2.2.2.2.2.2.2.2.1 | exact hM.1.2.2.2.2.2.2.2.2.2.1 | exact hM.1.2.2.2.2.2.2.2.2.2.2) (vp_in_nI (by omega) (by decide)) ?_
      refine V_iload_n 22 dX6_isTold_22 rfl ?_
      refine V_icmp_ne 23 30 dX6_isTold_23 rfl (fun c_23 => ?_) (fun c_23 => ?_)
      · have nb : ¬ ∃ j, j < i + 1 ∧ M.2.2.1 5 j = x := fun ⟨j, h1, h2⟩ => if e : j = i then c_23 (e ▸ h2) else nb0 ⟨j, by omega, h2⟩
        refine V_iconstv 30 (0) dX6_isTold_30 (by decide) ?_
        refine V_istore_n 31 dX6_isTold_31 rfl rfl ?_
        refine V_iinc 32 (nI (i + 1)) dX6_isTold_32 rfl (nI_inc i) rfl rfl ?_
        refine V_goto 35 5 dX6_isTold_35 rfl ?_
        first
        | exact ih (i + 1) rfl (by omega) true (iff_of_true rfl yb)
        | exact ih (i + 1) rfl (by omega) false (iff_of_false (by decide) nb)
      · have yb : ∃ j, j < i + 1 ∧ M.2.2.1 5 j = x := ⟨i, by omega, c_23⟩
        refine V_iconstv 26 (1) dX6_isTold_26 (by decide) ?_
        refine V_goto 27 31 dX6_isTold_27 rfl ?_
        refine V_istore_n 31 dX6_isTold_31 rfl rfl ?_
        refine V_iinc 32 (nI (i + 1)) dX6_isTold_32 rfl (nI_inc i) rfl rfl ?_
        refine V_goto 35 5 dX6_isTold_35 rfl ?_
        first
        | exact ih (i + 1) rfl (by omega) true (iff_of_true rfl yb)
        | exact ih (i + 1) rfl (by omega) false (iff_of_false (by decide) nb)
set_option maxHeartbeats 1000000 in
set_option maxRecDepth 100000 in
theorem c_X6_isTold (hM : WM G h0 h m M) {x : Int32} (n : Nat) (hn : n ≤ 6) (k1 : (∃ j, j < n ∧ M.2.2.1 5 j = x) → Post (some (.int 1)) h sz) (k0 : ¬ (∃ j, j < n ∧ M.2.2.1 5 j = x) → Post (some (.int 0)) h sz) : Cn l G yX6_isTold cX6_isTold 5 (some .boolean) 0 0 0 [.ref m, .int x, .int (nI n)] h sz Post := by
  refine Cn.of RX6 false (by decide) rfl (fun q => by cases q) (Nat.le_of_ble_eq_true rfl) ?_
  refine V_iconstv 0 (0) dX6_isTold_0 (by decide) ?_
  refine V_istore_n 1 dX6_isTold_1 rfl rfl ?_
  refine V_iconstv 2 (0) dX6_isTold_2 (by decide) ?_
  refine V_istore 3 dX6_isTold_3 rfl rfl ?_
  refine lp_X6_isTold hM n hn (fun b hb => ?_) 0 (Nat.zero_le _) false (iff_of_false (by decide) (fun ⟨j, h1, _⟩ => absurd h1 (Nat.not_lt_zero j)))
  cases b with
  | true => exact k1 (hb.mp rfl)
  | false => exact k0 (fun q => absurd (hb.mpr q) (by decide))
end M43
