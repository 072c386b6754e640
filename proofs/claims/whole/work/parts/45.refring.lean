def cpI (f g : Nat → Int32) (i : Nat) : Nat → Int32 := fun q => if q < i then g q else f q
theorem cpI_s (f g : Nat → Int32) (i : Nat) : upd (cpI f g i) i (g i) = cpI f g (i + 1) := by
  funext q
  rw [upd_if]
  unfold cpI
  by_cases h : q = i
  · rw [if_pos h, if_pos (by omega), h]
  · rw [if_neg h]
    by_cases h2 : q < i
    · rw [if_pos h2, if_pos (by omega)]
    · rw [if_neg h2, if_neg (by omega)]
theorem cpI_0 (f g : Nat → Int32) : cpI f g 0 = f := by
  funext q
  unfold cpI
  rw [if_neg (by omega)]
theorem va_up3 {α : Type} (f : Nat → α) (a b a1 b1 : α) : va_up (va_up (va_up (va_up f 1 a) 2 b) 1 a1) 2 b1 = va_up (va_up f 1 a1) 2 b1 := by
  funext q
  by_cases h2 : q = 2
  · rw [h2, va_up_self, va_up_self]
  · rw [va_up_ne _ _ h2, va_up_ne _ _ h2]
    by_cases h1 : q = 1
    · rw [h1, va_up_self, va_up_self]
    · rw [va_up_ne _ _ h1, va_up_ne _ _ h1, va_up_ne _ _ h2, va_up_ne _ _ h1]
theorem mJ12 (M : MT) (a b a1 b1 : Nat → Int32) : mJ (mJ (mJ (mJ M 1 a) 2 b) 1 a1) 2 b1 = mJ (mJ M 1 a1) 2 b1 := by
  show (M.1, M.2.1, va_up (va_up (va_up (va_up M.2.2.1 1 a) 2 b) 1 a1) 2 b1, M.2.2.2) = (M.1, M.2.1, va_up (va_up M.2.2.1 1 a1) 2 b1, M.2.2.2)
  rw [va_up3]
theorem va_up_id {α : Type} (f : Nat → α) (k : Nat) : va_up f k (f k) = f := by
  funext q
  by_cases h : q = k
  · rw [h, va_up_self]
  · rw [va_up_ne _ _ h]
theorem mJ_id (M : MT) (k : Nat) : mJ M k (M.2.2.1 k) = M := by
  show (M.1, M.2.1, va_up M.2.2.1 k (M.2.2.1 k), M.2.2.2) = M
  rw [va_up_id]
theorem mJ_at (M : MT) (k : Nat) (f : Nat → Int32) : (mJ M k f).2.2.1 k = f := by
  show va_up M.2.2.1 k f k = f
  rw [va_up_self]
/-- a ring that was read -/
def OKF (n : Nat) (M M1 : MT) : Prop := M1.1 0 = nI n ∧ M1.1 4 = 0 ∧ M1.1 14 = 0 ∧ M1.1 15 = 0 ∧ (∀ i, i < n → M1.2.2.1 1 i = M.2.2.1 5 i ∧ M1.2.2.1 2 i = M.2.2.1 6 i) ∧ ∃ f S X : Nat → Int32, M1.2.2.1 3 = bgF f S X 0 0 n 0 ∧ ∀ j, j < n → S j = M.2.2.1 6 j
section M45
variable {B nx hs : Nat} {X : TX} {K : Nat → ET} {R0 : Int32 × TX × RG}
variable {l : Launch} {G : zGT} {h h0 : hpT} {sz : Nat} {Post : Option Value → hpT → Nat → Prop} {m r : Nat} {M M0 : MT} {Q : RG} {E : ET}
set_option maxHeartbeats 1000000 in
set_option maxRecDepth 100000 in
theorem l3_X6_ring {x3 : Int32} (n : Nat) (hn : n ≤ 6) (hn0 : M.1 0 = nI n) (k : ∀ h, WM G h0 h m (mJ (mJ M 1 (cpI (M.2.2.1 1) (M.2.2.1 5) n)) 2 (cpI (M.2.2.1 2) (M.2.2.1 6) n)) → V l G RX6 cX6_ring 5 (some .int) false 4 0 0 Post 162 [some (.ref m), some (.int (nI n)), some (.int 0), some (.int x3), some (.int (nI n))] [] h sz) : ∀ i, i ≤ n → ∀ h, WM G h0 h m (mJ (mJ M 1 (cpI (M.2.2.1 1) (M.2.2.1 5) i)) 2 (cpI (M.2.2.1 2) (M.2.2.1 6) i)) → V l G RX6 cX6_ring 5 (some .int) false 4 0 0 Post 119 [some (.ref m), some (.int (nI n)), some (.int 0), some (.int x3), some (.int (nI i))] [] h sz := by
  refine up_ind n (fun i hi ih h hM => ?_)
  refine V_iload 119 dX6_ring_119 rfl ?_
  refine V_aload_n 121 dX6_ring_121 rfl ?_
  refine V_get 122 dX6_ring_122 fdX6_41 (by first | exact hM.1.1 | exact hM.1.2.1 | exact hM.1.2.2.1 | exact hM.1.2.2.2.1 | exact hM.1.2.2.2.2.1 | exact hM.1.2.2.2.2.2.1 | exact hM.1.2.2.2.2.2.2.1 | exact hM.1.2.2.2.2.2.2.2.1 | exact hM.1.2.2.2.2.2.2.2.2.1 | exact hM.1.2.2.2.2.2.2.2.2.2.1 | exact hM.1.2.2.2.2.2.2.2.2.2.2) rfl ?_
  refine V_topi (nI n) hn0 ?_
  refine V_icmp_ge 125 162 dX6_ring_125 rfl (fun c_125 => ?_) (fun c_125 => ?_)
  · have e_9 : i = n := Nat.le_antisymm hi ((nI_leI (by omega) (by omega)).mp c_125)
    subst e_9
    exact k h hM
  · have e_9 : i < n := Nat.lt_of_not_le (fun q => c_125 (nI_le q (by omega)))
    refine V_aload_n 128 dX6_ring_128 rfl ?_
    refine V_get 129 dX6_ring_129 fdX6_7 (by first | exact hM.1.1 | exact hM.1.2.1 | exact hM.1.2.2.1 | exact hM.1.2.2.2.1 | exact hM.1.2.2.2.2.1 | exact hM.1.2.2.2.2.2.1 | exact hM.1.2.2.2.2.2.2.1 | exact hM.1.2.2.2.2.2.2.2.1 | exact hM.1.2.2.2.2.2.2.2.2.1 | exact hM.1.2.2.2.2.2.2.2.2.2.1 | exact hM.1.2.2.2.2.2.2.2.2.2.2) rfl ?_
    refine V_iload 132 dX6_ring_132 rfl ?_
    refine V_aload_n 134 dX6_ring_134 rfl ?_
    refine V_get 135 dX6_ring_135 fdX6_22 (by first | exact hM.1.1 | exact hM.1.2.1 | exact hM.1.2.2.1 | exact hM.1.2.2.2.1 | exact hM.1.2.2.2.2.1 | exact hM.1.2.2.2.2.2.1 | exact hM.1.2.2.2.2.2.2.1 | exact hM.1.2.2.2.2.2.2.2.1 | exact hM.1.2.2.2.2.2.2.2.2.1 | exact hM.1.2.2.2.2.2.2.2.2.2.1 | exact hM.1.2.2.2.2.2.2.2.2.2.2) rfl ?_
    refine V_iload 138 dX6_ring_138 rfl ?_
    refine V_ialdk 140 i (nI_clamp (by omega)) dX6_ring_140 (by first | exact hM.1.1 | exact hM.1.2.1 | exact hM.1.2.2.1 | exact hM.1.2.2.2.1 | exact hM.1.2.2.2.2.1 | exact hM.1.2.2.2.2.2.1 | exact hM.1.2.2.2.2.2.2.1 | exact hM.1.2.2.2.2.2.2.2.1 | exact hM.1.2.2.2.2.2.2.2.2.1 | exact hM.1.2.2.2.2.2.2.2.2.2.1 | exact hM.1.2.2.2.2.2.2.2.2.2.2) (vp_in_nI (by omega) (by decide)) ?_
    refine V_topi (M.2.2.1 5 i) rfl ?_
    refine V_ia1 141 i (nI_clamp (by omega)) dX6_ring_141 hM (vp_in_nI (by omega) (by decide)) (fun h hM => ?_)
    refine V_aload_n 142 dX6_ring_142 rfl ?_
    refine V_get 143 dX6_ring_143 fdX6_13 (by first | exact hM.1.1 | exact hM.1.2.1 | exact hM.1.2.2.1 | exact hM.1.2.2.2.1 | exact hM.1.2.2.2.2.1 | exact hM.1.2.2.2.2.2.1 | exact hM.1.2.2.2.2.2.2.1 | exact hM.1.2.2.2.2.2.2.2.1 | exact hM.1.2.2.2.2.2.2.2.2.1 | exact hM.1.2.2.2.2.2.2.2.2.2.1 | exact hM.1.2.2.2.2.2.2.2.2.2.2) rfl ?_
    refine V_iload 146 dX6_ring_146 rfl ?_
    refine V_aload_n 148 dX6_ring_148 rfl ?_
    refine V_get 149 dX6_ring_149 fdX6_25 (by first | exact hM.1.1 | exact hM.1.2.1 | exact hM.1.2.2.1 | exact hM.1.2.2.2.1 | exact hM.1.2.2.2.2.1 | exact hM.1.2.2.2.2.2.1 | exact hM.1.2.2.2.2.2.2.1 | exact hM.1.2.2.2.2.2.2.2.1 | exact hM.1.2.2.2.2.2.2.2.2.1 | exact hM.1.2.2.2.2.2.2.2.2.2.1 | exact hM.1.2.2.2.2.2.2.2.2.2.2) rfl ?_
    refine V_iload 152 dX6_ring_152 rfl ?_
    refine V_ialdk 154 i (nI_clamp (by omega)) dX6_ring_154 (by first | exact hM.1.1 | exact hM.1.2.1 | exact hM.1.2.2.1 | exact hM.1.2.2.2.1 | exact hM.1.2.2.2.2.1 | exact hM.1.2.2.2.2.2.1 | exact hM.1.2.2.2.2.2.2.1 | exact hM.1.2.2.2.2.2.2.2.1 | exact hM.1.2.2.2.2.2.2.2.2.1 | exact hM.1.2.2.2.2.2.2.2.2.2.1 | exact hM.1.2.2.2.2.2.2.2.2.2.2) (vp_in_nI (by omega) (by decide)) ?_
    refine V_topi (M.2.2.1 6 i) rfl ?_
    refine V_ia2 155 i (nI_clamp (by omega)) dX6_ring_155 hM (vp_in_nI (by omega) (by decide)) (fun h hM => ?_)
    refine V_iinc 156 (nI (i + 1)) dX6_ring_156 rfl (nI_inc i) rfl rfl ?_
    refine V_goto 159 119 dX6_ring_159 rfl ?_
    refine ih (i + 1) rfl (by omega) h ?_
    rw [← cpI_s (M.2.2.1 1) (M.2.2.1 5) i, ← cpI_s (M.2.2.1 2) (M.2.2.1 6) i, ← mJ12 M (cpI (M.2.2.1 1) (M.2.2.1 5) i) (cpI (M.2.2.1 2) (M.2.2.1 6) i)]
    exact hM
set_option maxHeartbeats 1000000 in
set_option maxRecDepth 100000 in
theorem l2_X6_ring {x3 : Int32} {f : Nat → Int32} (n : Nat) (k : ∀ h, WM G h0 h m (mJ M 3 (zrF f 168)) → V l G RX6 cX6_ring 5 (some .int) false 4 0 0 Post 116 [some (.ref m), some (.int (nI n)), some (.int 0), some (.int x3), some (.int (nI 168))] [] h sz) : ∀ i, i ≤ 168 → ∀ h, WM G h0 h m (mJ M 3 (zrF f i)) → V l G RX6 cX6_ring 5 (some .int) false 4 0 0 Post 94 [some (.ref m), some (.int (nI n)), some (.int 0), some (.int x3), some (.int (nI i))] [] h sz := by
  refine up_ind 168 (fun i hi ih h hM => ?_)
  refine V_iload 94 dX6_ring_94 rfl ?_
  refine V_sipushv 96 (168) dX6_ring_96 (by decide) ?_
  refine V_icmp_ge 99 116 dX6_ring_99 rfl (fun c_99 => ?_) (fun c_99 => ?_)
  · have e_6 : i = 168 := Nat.le_antisymm hi ((nI_leI (a := 168) (by decide) (by omega)).mp c_99)
    subst e_6
    exact k h hM
  · have e_6 : i < 168 := Nat.lt_of_not_le (fun q => c_99 (nI_le (a := 168) q (by omega)))
    refine V_aload_n 102 dX6_ring_102 rfl ?_
    refine V_get 103 dX6_ring_103 fdX6_16 (by first | exact hM.1.1 | exact hM.1.2.1 | exact hM.1.2.2.1 | exact hM.1.2.2.2.1 | exact hM.1.2.2.2.2.1 | exact hM.1.2.2.2.2.2.1 | exact hM.1.2.2.2.2.2.2.1 | exact hM.1.2.2.2.2.2.2.2.1 | exact hM.1.2.2.2.2.2.2.2.2.1 | exact hM.1.2.2.2.2.2.2.2.2.2.1 | exact hM.1.2.2.2.2.2.2.2.2.2.2) rfl ?_
    refine V_iload 106 dX6_ring_106 rfl ?_
    refine V_iconstv 108 (0) dX6_ring_108 (by decide) ?_
    refine V_ia3 109 i (nI_clamp (by omega)) dX6_ring_109 hM (vp_in_nI (by omega) (by decide)) (fun h hM => ?_)
    refine V_iinc 110 (nI (i + 1)) dX6_ring_110 rfl (nI_inc i) rfl rfl ?_
    refine V_goto 113 94 dX6_ring_113 rfl ?_
    refine ih (i + 1) rfl (by omega) h ?_
    rw [← zrF_s, ← mJ_mJ M (zrF f i)]
    exact hM
set_option maxHeartbeats 1000000 in
set_option maxRecDepth 100000 in
theorem tok_X6_ring {x3 : Int32} (n : Nat) (hn : n ≤ 6) (hM : WM G h0 h m M) (h20 : M.1 20 = -1) (h14 : M.1 14 = x3) (k : ∀ h M1, WM G h0 h m M1 → OKF n M M1 → Post (some (.int (nI n))) h sz) : V l G RX6 cX6_ring 5 (some .int) false 4 0 0 Post 42 [some (.ref m), some (.int (nI n)), some (.int 0)] [] h sz := by
  refine V_aload_n 42 dX6_ring_42 rfl ?_
  refine V_get 43 dX6_ring_43 fdX6_176 (by first | exact hM.1.1 | exact hM.1.2.1 | exact hM.1.2.2.1 | exact hM.1.2.2.2.1 | exact hM.1.2.2.2.2.1 | exact hM.1.2.2.2.2.2.1 | exact hM.1.2.2.2.2.2.2.1 | exact hM.1.2.2.2.2.2.2.2.1 | exact hM.1.2.2.2.2.2.2.2.2.1 | exact hM.1.2.2.2.2.2.2.2.2.2.1 | exact hM.1.2.2.2.2.2.2.2.2.2.2) rfl ?_
  refine V_iconstv 46 (-1) dX6_ring_46 (by decide) ?_
  refine V_icmp_ne 47 57 dX6_ring_47 rfl (fun q => absurd h20 q) (fun _ => ?_)
  refine V_aload_n 50 dX6_ring_50 rfl ?_
  refine V_get 51 dX6_ring_51 fdX6_162 (by first | exact hM.1.1 | exact hM.1.2.1 | exact hM.1.2.2.1 | exact hM.1.2.2.2.1 | exact hM.1.2.2.2.2.1 | exact hM.1.2.2.2.2.2.1 | exact hM.1.2.2.2.2.2.2.1 | exact hM.1.2.2.2.2.2.2.2.1 | exact hM.1.2.2.2.2.2.2.2.2.1 | exact hM.1.2.2.2.2.2.2.2.2.2.1 | exact hM.1.2.2.2.2.2.2.2.2.2.2) rfl ?_
  refine V_topi x3 h14 ?_
  refine V_goto 54 61 dX6_ring_54 rfl ?_
  refine V_istore_n 61 dX6_ring_61 rfl rfl ?_
  refine V_aload_n 62 dX6_ring_62 rfl ?_
  refine V_iconstv 63 (0) dX6_ring_63 (by decide) ?_
  refine V_putM 64 dX6_ring_64 fpX6_162 hM rfl rfl (fun h hM => ?_)
  refine V_aload_n 67 dX6_ring_67 rfl ?_
  refine V_iload_n 68 dX6_ring_68 rfl ?_
  refine V_putM 69 dX6_ring_69 fpX6_199 hM rfl rfl (fun h hM => ?_)
  refine V_iload_n 72 dX6_ring_72 rfl ?_
  refine V_if_le 73 81 dX6_ring_73 rfl (fun _ => ?_) (fun q => absurd (by decide) q)
  refine V_aload_n 81 dX6_ring_81 rfl ?_
  refine V_iload_n 82 dX6_ring_82 rfl ?_
  refine V_putM 83 dX6_ring_83 fpX6_41 hM rfl rfl (fun h hM => ?_)
  refine V_aload_n 86 dX6_ring_86 rfl ?_
  refine V_iconstv 87 (0) dX6_ring_87 (by decide) ?_
  refine V_putM 88 dX6_ring_88 fpX6_153 hM rfl rfl (fun h hM => ?_)
  refine V_iconstv 91 (0) dX6_ring_91 (by decide) ?_
  refine V_istore 92 dX6_ring_92 rfl rfl ?_
  refine l2_X6_ring (M := mI (mI (mI (mI M 14 0) 15 0) 0 (nI n)) 4 0) (f := M.2.2.1 3) n (fun h hM => ?_) 0 (Nat.zero_le _) h (by rw [zrF_0, show M.2.2.1 3 = (mI (mI (mI (mI M 14 0) 15 0) 0 (nI n)) 4 0).2.2.1 3 from rfl, mJ_id]; exact hM)
  refine V_iconstv 116 (0) dX6_ring_116 (by decide) ?_
  refine V_istore 117 dX6_ring_117 rfl rfl ?_
  refine l3_X6_ring n hn rfl (fun h hM => ?_) 0 (Nat.zero_le _) h (by rw [cpI_0, cpI_0, mJ_id, mJ_id]; exact hM)
  refine V_aload_n 162 dX6_ring_162 rfl ?_
  refine V_iv0 163 dX6_ring_163 kvX6_202 rfl (by first | exact hM.1.1 | exact hM.1.2.1 | exact hM.1.2.2.1 | exact hM.1.2.2.2.1 | exact hM.1.2.2.2.2.1 | exact hM.1.2.2.2.2.2.1 | exact hM.1.2.2.2.2.2.2.1 | exact hM.1.2.2.2.2.2.2.2.1 | exact hM.1.2.2.2.2.2.2.2.2.1 | exact hM.1.2.2.2.2.2.2.2.2.2.1 | exact hM.1.2.2.2.2.2.2.2.2.2.2) rfl rfl (c_X6_clears hM (X := fun _ => 0) n hn rfl (fun h hM => ?_))
  refine V_aload_n 166 dX6_ring_166 rfl ?_
  refine V_get 167 dX6_ring_167 fdX6_41 (by first | exact hM.1.1 | exact hM.1.2.1 | exact hM.1.2.2.1 | exact hM.1.2.2.2.1 | exact hM.1.2.2.2.2.1 | exact hM.1.2.2.2.2.2.1 | exact hM.1.2.2.2.2.2.2.1 | exact hM.1.2.2.2.2.2.2.2.1 | exact hM.1.2.2.2.2.2.2.2.2.1 | exact hM.1.2.2.2.2.2.2.2.2.2.1 | exact hM.1.2.2.2.2.2.2.2.2.2.2) rfl ?_
  refine V_topi (nI n) rfl ?_
  refine V_iret 170 dX6_ring_170 ?_
  refine k h _ hM ⟨rfl, rfl, rfl, rfl, fun i hi => ⟨if_pos hi, if_pos hi⟩, _, _, _, mJ_at _ _ _, fun j hj => if_pos hj⟩
set_option maxHeartbeats 1000000 in
set_option maxRecDepth 100000 in
theorem tbd_X6_ring {x1 : Int32} (b : Nat) (hb : 1 ≤ b ∧ b ≤ 3) (hM : WM G h0 h m M) (hX : TXR X M) (hK : TK X M) (k : ∀ h, WM G h0 h m (mI (mI M 14 0) 15 (nI b)) → Post (some (.int (-100 - nI (tkA X)))) h sz) : V l G RX6 cX6_ring 5 (some .int) false 4 0 0 Post 42 [some (.ref m), some (.int x1), some (.int (nI b))] [] h sz := by
  refine V_aload_n 42 dX6_ring_42 rfl ?_
  refine V_get 43 dX6_ring_43 fdX6_176 (by first | exact hM.1.1 | exact hM.1.2.1 | exact hM.1.2.2.1 | exact hM.1.2.2.2.1 | exact hM.1.2.2.2.2.1 | exact hM.1.2.2.2.2.2.1 | exact hM.1.2.2.2.2.2.2.1 | exact hM.1.2.2.2.2.2.2.2.1 | exact hM.1.2.2.2.2.2.2.2.2.1 | exact hM.1.2.2.2.2.2.2.2.2.2.1 | exact hM.1.2.2.2.2.2.2.2.2.2.2) rfl ?_
  refine V_iconstv 46 (-1) dX6_ring_46 (by decide) ?_
  refine V_icmp_ne 47 57 dX6_ring_47 rfl (fun c_47 => ?_) (fun c_47 => ?_)
  · refine V_aload_n 57 dX6_ring_57 rfl ?_
    refine V_get 58 dX6_ring_58 fdX6_173 (by first | exact hM.1.1 | exact hM.1.2.1 | exact hM.1.2.2.1 | exact hM.1.2.2.2.1 | exact hM.1.2.2.2.2.1 | exact hM.1.2.2.2.2.2.1 | exact hM.1.2.2.2.2.2.2.1 | exact hM.1.2.2.2.2.2.2.2.1 | exact hM.1.2.2.2.2.2.2.2.2.1 | exact hM.1.2.2.2.2.2.2.2.2.2.1 | exact hM.1.2.2.2.2.2.2.2.2.2.2) rfl ?_
    refine V_topi (nI (tkA X)) hK.1 ?_
    refine V_istore_n 61 dX6_ring_61 rfl rfl ?_
    refine V_aload_n 62 dX6_ring_62 rfl ?_
    refine V_iconstv 63 (0) dX6_ring_63 (by decide) ?_
    refine V_putM 64 dX6_ring_64 fpX6_162 hM rfl rfl (fun h hM => ?_)
    refine V_aload_n 67 dX6_ring_67 rfl ?_
    refine V_iload_n 68 dX6_ring_68 rfl ?_
    refine V_putM 69 dX6_ring_69 fpX6_199 hM rfl rfl (fun h hM => ?_)
    refine V_iload_n 72 dX6_ring_72 rfl ?_
    refine V_if_le 73 81 dX6_ring_73 rfl (fun q => absurd q (nI_nle (by omega) (by omega))) (fun _ => ?_)
    refine V_bipushv 76 (-100) dX6_ring_76 (by decide) ?_
    refine V_iload_n 78 dX6_ring_78 rfl ?_
    refine V_isub 79 dX6_ring_79 ?_
    refine V_iret 80 dX6_ring_80 ?_
    exact k h hM
  · refine V_aload_n 50 dX6_ring_50 rfl ?_
    refine V_get 51 dX6_ring_51 fdX6_162 (by first | exact hM.1.1 | exact hM.1.2.1 | exact hM.1.2.2.1 | exact hM.1.2.2.2.1 | exact hM.1.2.2.2.2.1 | exact hM.1.2.2.2.2.2.1 | exact hM.1.2.2.2.2.2.2.1 | exact hM.1.2.2.2.2.2.2.2.1 | exact hM.1.2.2.2.2.2.2.2.2.1 | exact hM.1.2.2.2.2.2.2.2.2.2.1 | exact hM.1.2.2.2.2.2.2.2.2.2.2) rfl ?_
    refine V_topi (nI (tkA X)) (by rw [hX.1, show X.1 = tkA X from Nat.le_antisymm ((hK.tok hX).2.2.2.2.mp c_47) (tkA_le X)]) ?_
    refine V_goto 54 61 dX6_ring_54 rfl ?_
    refine V_istore_n 61 dX6_ring_61 rfl rfl ?_
    refine V_aload_n 62 dX6_ring_62 rfl ?_
    refine V_iconstv 63 (0) dX6_ring_63 (by decide) ?_
    refine V_putM 64 dX6_ring_64 fpX6_162 hM rfl rfl (fun h hM => ?_)
    refine V_aload_n 67 dX6_ring_67 rfl ?_
    refine V_iload_n 68 dX6_ring_68 rfl ?_
    refine V_putM 69 dX6_ring_69 fpX6_199 hM rfl rfl (fun h hM => ?_)
    refine V_iload_n 72 dX6_ring_72 rfl ?_
    refine V_if_le 73 81 dX6_ring_73 rfl (fun q => absurd q (nI_nle (by omega) (by omega))) (fun _ => ?_)
    refine V_bipushv 76 (-100) dX6_ring_76 (by decide) ?_
    refine V_iload_n 78 dX6_ring_78 rfl ?_
    refine V_isub 79 dX6_ring_79 ?_
    refine V_iret 80 dX6_ring_80 ?_
    exact k h hM
set_option maxHeartbeats 1000000 in
set_option maxRecDepth 100000 in
theorem lp_X6_ring (k0 : ∀ (h : hpT) (M : MT) (X1 : TX) (Q1 : RG) (b : Nat) (x1 : Int32), WM G h0 h m M → RFc M0 M → TK X1 M → TXR X1 M → (1 ≤ b ∧ b ≤ 3) → R0 = (nI (tkA X1), fX' (ftX X1) (nI b), Q1) → V l G RX6 cX6_ring 5 (some .int) false 4 0 0 Post 42 [some (.ref m), some (.int x1), some (.int (nI b))] [] h sz) (k1 : ∀ (h : hpT) (M : MT) (X1 : TX) (Q1 : RG), WM G h0 h m M → RFc M0 M → TXR X1 M → X1.1 ≤ tkA X1 → M.1 20 = -1 → 2 ≤ Q1.1 → Q1.1 ≤ 6 → TD Q1 M → R0 = (-1, fX' (ftX X1) 0, Q1) → V l G RX6 cX6_ring 5 (some .int) false 4 0 0 Post 42 [some (.ref m), some (.int (nI Q1.1)), some (.int 0)] [] h sz) : ∀ i, i ≤ 6 → ∀ (h : hpT) (M : MT) (X : TX) (Q : RG), Q.1 = i → WM G h0 h m M → RFc M0 M → TXR X M → X.2.2.2.2 ≤ X.1 → TK X M → TD Q M → (∀ R, RDs 0 X Q R → R0 = R) → V l G RX6 cX6_ring 5 (some .int) false 4 0 0 Post 13 [some (.ref m), some (.int (nI Q.1)), some (.int 0)] [] h sz := by
  refine up_ind 6 (fun i hi ih h M X Q hQ hM hF hX hte hK hT hRD => ?_)
  have hq : Q.1 ≤ 6 := by omega
  refine V_iload_n 13 dX6_ring_13 rfl ?_
  refine V_if_ne 14 42 dX6_ring_14 rfl (fun q => absurd rfl q) (fun _ => ?_)
  refine V_iload_n 17 dX6_ring_17 rfl ?_
  refine V_iconstv 18 (2) dX6_ring_18 (by decide) ?_
  refine V_icmp_lt 19 30 dX6_ring_19 rfl (fun c_19 => ?_) (fun c_19 => ?_)
  · have hne : ¬ (2 ≤ Q.1 ∧ X.1 ≤ tkA X) := fun q => absurd ((nI_ltI (b := 2) (by omega) (by decide)).mp c_19) (by omega)
    refine V_aload_n 30 dX6_ring_30 rfl ?_
    refine V_iload_n 31 dX6_ring_31 rfl ?_
    refine V_iv1 32 dX6_ring_32 kvX6_196 rfl (by first | exact hM.1.1 | exact hM.1.2.1 | exact hM.1.2.2.1 | exact hM.1.2.2.2.1 | exact hM.1.2.2.2.2.1 | exact hM.1.2.2.2.2.2.1 | exact hM.1.2.2.2.2.2.2.1 | exact hM.1.2.2.2.2.2.2.2.1 | exact hM.1.2.2.2.2.2.2.2.2.1 | exact hM.1.2.2.2.2.2.2.2.2.2.1 | exact hM.1.2.2.2.2.2.2.2.2.2.2) rfl rfl (c_X6_readsContender hM hX hte hK hT hq hne (fun h M X1 Q1 b hM hF1 hK1 hX1 hb hRD1 => ?_) (fun h M X1 Q1 hM hF1 hK1 hX1 hte1 hT1 hQ1 hq1 hRD1 => ?_))
    · refine V_istore_n 35 dX6_ring_35 rfl rfl ?_
      refine V_iinc 36 (nI (Q.1 + 1)) dX6_ring_36 rfl (nI_inc _) rfl rfl ?_
      refine V_goto 39 13 dX6_ring_39 rfl ?_
      first
      | (rw [← hQ1]; exact ih Q1.1 (by omega) hq1 h M X1 Q1 rfl hM (hF.tr hF1) hX1 hte1 hK1 hT1 (fun R hR => hRD R (hRD1 R hR)))
      | (refine V_iload_n 13 dX6_ring_13 rfl ?_
         refine V_if_ne 14 42 dX6_ring_14 rfl (fun _ => ?_) (fun q => absurd q (nI_ne0 (by omega) (by omega)))
         exact k0 h M X1 Q1 b _ hM (hF.tr hF1) hK1 hX1 hb (hRD _ hRD1))
    · refine V_istore_n 35 dX6_ring_35 rfl rfl ?_
      refine V_iinc 36 (nI (Q.1 + 1)) dX6_ring_36 rfl (nI_inc _) rfl rfl ?_
      refine V_goto 39 13 dX6_ring_39 rfl ?_
      first
      | (rw [← hQ1]; exact ih Q1.1 (by omega) hq1 h M X1 Q1 rfl hM (hF.tr hF1) hX1 hte1 hK1 hT1 (fun R hR => hRD R (hRD1 R hR)))
      | (refine V_iload_n 13 dX6_ring_13 rfl ?_
         refine V_if_ne 14 42 dX6_ring_14 rfl (fun _ => ?_) (fun q => absurd q (nI_ne0 (by omega) (by omega)))
         exact k0 h M X1 Q1 b _ hM (hF.tr hF1) hK1 hX1 hb (hRD _ hRD1))
  · have q2 : 2 ≤ Q.1 := Nat.le_of_not_lt (fun q => c_19 ((nI_ltI (b := 2) (by omega) (by decide)).mpr q))
    refine V_aload_n 22 dX6_ring_22 rfl ?_
    refine V_get 23 dX6_ring_23 fdX6_176 (by first | exact hM.1.1 | exact hM.1.2.1 | exact hM.1.2.2.1 | exact hM.1.2.2.2.1 | exact hM.1.2.2.2.2.1 | exact hM.1.2.2.2.2.2.1 | exact hM.1.2.2.2.2.2.2.1 | exact hM.1.2.2.2.2.2.2.2.1 | exact hM.1.2.2.2.2.2.2.2.2.1 | exact hM.1.2.2.2.2.2.2.2.2.2.1 | exact hM.1.2.2.2.2.2.2.2.2.2.2) rfl ?_
    refine V_iconstv 26 (-1) dX6_ring_26 (by decide) ?_
    refine V_icmp_eq 27 42 dX6_ring_27 rfl (fun c_27 => ?_) (fun c_27 => ?_)
    · exact k1 h M X Q hM hF hX ((hK.tok hX).2.2.2.2.mp c_27) c_27 q2 hq hT (hRD _ (RDs.eok ((hK.tok hX).2.2.2.2.mp c_27) q2))
    · have hne : ¬ (2 ≤ Q.1 ∧ X.1 ≤ tkA X) := fun q => c_27 ((hK.tok hX).2.2.2.2.mpr q.2)
      refine V_aload_n 30 dX6_ring_30 rfl ?_
      refine V_iload_n 31 dX6_ring_31 rfl ?_
      refine V_iv1 32 dX6_ring_32 kvX6_196 rfl (by first | exact hM.1.1 | exact hM.1.2.1 | exact hM.1.2.2.1 | exact hM.1.2.2.2.1 | exact hM.1.2.2.2.2.1 | exact hM.1.2.2.2.2.2.1 | exact hM.1.2.2.2.2.2.2.1 | exact hM.1.2.2.2.2.2.2.2.1 | exact hM.1.2.2.2.2.2.2.2.2.1 | exact hM.1.2.2.2.2.2.2.2.2.2.1 | exact hM.1.2.2.2.2.2.2.2.2.2.2) rfl rfl (c_X6_readsContender hM hX hte hK hT hq hne (fun h M X1 Q1 b hM hF1 hK1 hX1 hb hRD1 => ?_) (fun h M X1 Q1 hM hF1 hK1 hX1 hte1 hT1 hQ1 hq1 hRD1 => ?_))
      · refine V_istore_n 35 dX6_ring_35 rfl rfl ?_
        refine V_iinc 36 (nI (Q.1 + 1)) dX6_ring_36 rfl (nI_inc _) rfl rfl ?_
        refine V_goto 39 13 dX6_ring_39 rfl ?_
        first
        | (rw [← hQ1]; exact ih Q1.1 (by omega) hq1 h M X1 Q1 rfl hM (hF.tr hF1) hX1 hte1 hK1 hT1 (fun R hR => hRD R (hRD1 R hR)))
        | (refine V_iload_n 13 dX6_ring_13 rfl ?_
           refine V_if_ne 14 42 dX6_ring_14 rfl (fun _ => ?_) (fun q => absurd q (nI_ne0 (by omega) (by omega)))
           exact k0 h M X1 Q1 b _ hM (hF.tr hF1) hK1 hX1 hb (hRD _ hRD1))
      · refine V_istore_n 35 dX6_ring_35 rfl rfl ?_
        refine V_iinc 36 (nI (Q.1 + 1)) dX6_ring_36 rfl (nI_inc _) rfl rfl ?_
        refine V_goto 39 13 dX6_ring_39 rfl ?_
        first
        | (rw [← hQ1]; exact ih Q1.1 (by omega) hq1 h M X1 Q1 rfl hM (hF.tr hF1) hX1 hte1 hK1 hT1 (fun R hR => hRD R (hRD1 R hR)))
        | (refine V_iload_n 13 dX6_ring_13 rfl ?_
           refine V_if_ne 14 42 dX6_ring_14 rfl (fun _ => ?_) (fun q => absurd q (nI_ne0 (by omega) (by omega)))
           exact k0 h M X1 Q1 b _ hM (hF.tr hF1) hK1 hX1 hb (hRD _ hRD1))
theorem REL.rbad {B nx hs : Nat} {X X1 : TX} {Q : RG} {E : ET} {K : Nat → ET} {M M0 M1 : MT} {b : Int32} (hR : REL B X Q E nx hs K M0) (hM0 : ∀ j, ¬ j = 16 → M.1 j = M0.1 j) (hM2 : M.2 = M0.2) (hF : RFc M M1) (h0 : X1.1 = 0) (hb : X1.2.2.1 = b) : REL B X1 Q E nx hs K (mI (mI M1 14 0) 15 b) := by
  have e2 : ∀ k, ¬ k = 5 → ¬ k = 6 → M1.2.2.1 k = M0.2.2.1 k := fun k a c => (hF.2.2.1 k a c).trans (by rw [hM2])
  refine ⟨⟨by rw [h0]; rfl, by omega, fun k hk => absurd hk (by omega), by rw [hb]; rfl⟩, hR.2.1.of ?_ (e2 1 (by omega) (by omega)) (e2 2 (by omega) (by omega)), hR.2.2.of hR.2.1.2.1 ?_ (fun q _ => by rw [show (mI (mI M1 14 0) 15 b).2.2.1 3 = M1.2.2.1 3 from rfl, e2 3 (by omega) (by omega)])⟩
  · show M1.1 0 = _
    rw [hF.1 0 (by omega), hM0 0 (by omega)]
  · show M1.1 4 = _
    rw [hF.1 4 (by omega), hM0 4 (by omega)]
theorem REL.rok {B nx hs : Nat} {X X1 : TX} {Q Q1 : RG} {E : ET} {K : Nat → ET} {M M0 M1 : MT} (hR : REL B X Q E nx hs K M0) (hT : TD Q1 M) (h2 : 2 ≤ Q1.1) (h6 : Q1.1 ≤ 6) (hO : OKF Q1.1 M M1) (h0 : X1.1 = 0) (hb : X1.2.2.1 = 0) : REL B X1 Q1 (startE Q1 E 0 1 1) nx 0 K M1 := by
  obtain ⟨o1, o2, o3, o4, o5, f, S, X, o6, o7⟩ := hO
  refine ⟨⟨by rw [h0, o3]; rfl, by omega, fun k hk => absurd hk (by omega), by rw [hb]; exact o4⟩, ⟨o1, h6, Or.inr h2, fun i hi => ⟨(o5 i hi).1.trans (hT i hi).1, (o5 i hi).2.trans (hT i hi).2.1, (hT i hi).2.2⟩⟩, ?_, by rw [o2]; rfl, Nat.zero_le _, hR.2.2.2.2.2.1, fun a ha => absurd ha (Nat.not_lt_zero a), Or.inl ⟨rfl, IN0.start h6 E 0 1 1, rfl⟩⟩
  rw [o6]
  have z := RowE.bg (f := f) (S := S) (X := X) (a := 0) (d := 1) (s := 1) (i := 0) (E := E) h6 (fun j hj => (o7 j hj).trans (hT j hj).2.1) (fun q => absurd rfl q) rfl
  obtain ⟨z1, -, z3, z4, z5, z6, z7⟩ := z
  have eb : ∀ q, ¬ q = 1 → bgF f S X 0 0 Q1.1 0 q = bgF f S X 0 1 Q1.1 0 q := fun q hq => by
    unfold bgF
    by_cases a : q < 168
    · rw [if_pos a, if_pos a]
      by_cases b : q = 0
      · rw [if_pos b, if_pos b]
      · rw [if_neg b, if_neg b, if_neg hq, if_neg hq]
    · rw [if_neg a, if_neg a]
  refine ⟨z1, fun q => absurd rfl q, by rw [eb _ (by omega)]; exact z3, fun k hk => by rw [eb _ (by omega)]; exact z4 k hk, fun i hi => ?_, fun k _ hk => absurd hk (Nat.not_lt_zero k), z7⟩
  have z8 := z5 i hi
  unfold ctA at z8 ⊢
  rw [eb _ (by omega), eb _ (by omega), eb _ (by omega), eb _ (by omega), eb _ (by omega), eb _ (by omega), eb _ (by omega), eb _ (by omega), eb _ (by omega)]
  exact z8
set_option maxHeartbeats 1000000 in
set_option maxRecDepth 100000 in
theorem c_X6_ring {q : (Nat → Int32) × (Nat → Int32)} (hM : WM G h0 h m M) (hR : REL B X Q E nx hs K M) (k0 : ¬ (rdE 41 0 (X.1, X.2.1, X.2.2.1, X.2.2.2.1, 0) (0, q)).1 = -1 → ∀ h1 M1, WM G h0 h1 m M1 → REL B (0, (rdE 41 0 (X.1, X.2.1, X.2.2.1, X.2.2.2.1, 0) (0, q)).2.1.2) Q E nx hs K M1 → Post (some (.int (-100 - (rdE 41 0 (X.1, X.2.1, X.2.2.1, X.2.2.2.1, 0) (0, q)).1))) h1 sz) (k1 : (rdE 41 0 (X.1, X.2.1, X.2.2.1, X.2.2.2.1, 0) (0, q)).1 = -1 → ∀ h1 M1, WM G h0 h1 m M1 → REL B (0, (rdE 41 0 (X.1, X.2.1, X.2.2.1, X.2.2.2.1, 0) (0, q)).2.1.2) (rdE 41 0 (X.1, X.2.1, X.2.2.1, X.2.2.2.1, 0) (0, q)).2.2 (startE (rdE 41 0 (X.1, X.2.1, X.2.2.1, X.2.2.2.1, 0) (0, q)).2.2 E 0 1 1) nx 0 K M1 → Post (some (.int (nI (rdE 41 0 (X.1, X.2.1, X.2.2.1, X.2.2.2.1, 0) (0, q)).2.2.1))) h1 sz) : Cn l G yX6_ring cX6_ring 5 (some .int) 4 0 0 [.ref m] h sz Post := by
  refine Cn.of RX6 false (by decide) rfl (fun q => by cases q) (Nat.le_of_ble_eq_true rfl) ?_
  have h40 := hR.1.2.1
  have hX0 : TXR (X.1, X.2.1, X.2.2.1, X.2.2.2.1, 0) M := ⟨hR.1.1, hR.1.2.1, hR.1.2.2.1⟩
  refine V_aload_n 0 dX6_ring_0 rfl ?_
  refine V_iconstv 1 (0) dX6_ring_1 (by decide) ?_
  refine V_putM 2 dX6_ring_2 fpX6_170 hM rfl rfl (fun h hM => ?_)
  refine V_aload_n 5 dX6_ring_5 rfl ?_
  refine V_iv0 6 dX6_ring_6 kvX6_193 rfl (by first | exact hM.1.1 | exact hM.1.2.1 | exact hM.1.2.2.1 | exact hM.1.2.2.2.1 | exact hM.1.2.2.2.2.1 | exact hM.1.2.2.2.2.2.1 | exact hM.1.2.2.2.2.2.2.1 | exact hM.1.2.2.2.2.2.2.2.1 | exact hM.1.2.2.2.2.2.2.2.2.1 | exact hM.1.2.2.2.2.2.2.2.2.2.1 | exact hM.1.2.2.2.2.2.2.2.2.2.2) rfl rfl (c_X6_reads (X := (X.1, X.2.1, X.2.2.1, X.2.2.2.1, 0)) hM hX0 (Nat.zero_le _) rfl (fun h M1 hM hF1 hK1 => ?_))
  refine V_iconstv 9 (0) dX6_ring_9 (by decide) ?_
  refine V_istore_n 10 dX6_ring_10 rfl rfl ?_
  refine V_iconstv 11 (0) dX6_ring_11 (by decide) ?_
  refine V_istore_n 12 dX6_ring_12 rfl rfl ?_
  have hFc : RFc (mI M 16 0) M1 := ((RFv.rf (M := mI M 16 0)).rd hF1).c
  have hm : ∀ j, ¬ j = 16 → (mI M 16 0).1 j = M.1 j := fun j hj => va_up_ne _ _ hj
  refine lp_X6_ring (M0 := mI M 16 0) (R0 := (rdE 41 0 (X.1, X.2.1, X.2.2.1, X.2.2.2.1, 0) (0, q))) (fun h M2 X1 Q1 b x1 hM hF hK hX hb hR0 => ?_) (fun h M2 X1 Q1 hM hF hX hXe h20 h2 h6 hT hR0 => ?_) 0 (by omega) h M1 (X.1, X.2.1, X.2.2.1, X.2.2.2.1, 0) (0, q) rfl hM hFc (TXR.fc (M := mI M 16 0) (X := (X.1, X.2.1, X.2.2.1, X.2.2.2.1, 0)) hX0 hFc) (Nat.zero_le _) hK1 (fun j hj => absurd hj (Nat.not_lt_zero j)) (fun R hR1 => hR1 41 (by show X.1 - 0 < 41; omega))
  · refine tbd_X6_ring b hb hM hX hK (fun h hM => ?_)
    have e := k0 (by rw [hR0]; exact nI_ne_m1 (by have := tkA_le X1; have := hX.2.1; omega)) h _ hM (REL.rbad hR hm rfl hF rfl (by rw [hR0]; rfl))
    rw [hR0] at e
    exact e
  · refine tok_X6_ring Q1.1 h6 hM h20 rfl (fun h M3 hM hO => ?_)
    have e := k1 (by rw [hR0]) h _ hM (by rw [hR0]; exact REL.rok hR hT h2 h6 hO rfl rfl)
    rw [hR0] at e
    exact e
end M45
