def thS (u : Nat → Int64) (p d to : Nat) : Nat → Int64
  | 0 => if to = 1 then u 1 * pwN (nI d).toInt64 p else 0
  | i + 1 => thS u p d to i + (if i + 2 < to then 0 else u (i + 2) * lvN (i + 2) to d * pwN (nI d).toInt64 (p - (i + 2)))
def rdO (u : Nat → Int64) (p d : Nat) : Nat → Int64 := fun to => thS u p d to (p - 1)
def odN (p d : Nat) : Nat → (Nat → Int64)
  | 0 => fun j => if j = p then 1 else 0
  | t + 1 => rdO (odN p d t) p d
def blN (p d : Nat) : Nat → Int64
  | 0 => 1
  | t + 1 => blN p d t * pwN (nI d).toInt64 p
def chA (p d k : Nat) : Nat := (odN p d k 1).toNatClampNeg
def chD (p d k : Nat) : Nat := (blN p d k).toNatClampNeg
def chOK (p d k : Nat) : Prop := odN p d k 1 = lN (chA p d k) ∧ blN p d k = lN (chD p d k) ∧ chA p d k < 2 ^ 62 ∧ chD p d k < 2 ^ 62 ∧ 0 < chD p d k ∧ lN (chA p d k) / lN (Nat.gcd (chA p d k) (chD p d k)) = lwE (w1N d k p) (pwN (nI d).toInt64 (5 * k)) 1 ∧ lN (chD p d k) / lN (Nat.gcd (chA p d k) (chD p d k)) = lwE (w1N d k p) (pwN (nI d).toInt64 (5 * k)) 0
def chB (p d k : Nat) : Bool := decide (odN p d k 1 = lN (chA p d k)) && (decide (blN p d k = lN (chD p d k)) && (decide (chA p d k < 2 ^ 62) && (decide (chD p d k < 2 ^ 62) && (decide (0 < chD p d k) && (decide (lN (chA p d k) / lN (Nat.gcd (chA p d k) (chD p d k)) = lwE (w1N d k p) (pwN (nI d).toInt64 (5 * k)) 1) && decide (lN (chD p d k) / lN (Nat.gcd (chA p d k) (chD p d k)) = lwE (w1N d k p) (pwN (nI d).toInt64 (5 * k)) 0))))))
theorem chB_ok {p d k : Nat} (h : chB p d k = true) : chOK p d k := by
  obtain ⟨h1, h⟩ := Bool.and_eq_true_iff.mp h
  obtain ⟨h2, h⟩ := Bool.and_eq_true_iff.mp h
  obtain ⟨h3, h⟩ := Bool.and_eq_true_iff.mp h
  obtain ⟨h4, h⟩ := Bool.and_eq_true_iff.mp h
  obtain ⟨h5, h⟩ := Bool.and_eq_true_iff.mp h
  obtain ⟨h6, h7⟩ := Bool.and_eq_true_iff.mp h
  exact ⟨of_decide_eq_true h1, of_decide_eq_true h2, of_decide_eq_true h3, of_decide_eq_true h4, of_decide_eq_true h5, of_decide_eq_true h6, of_decide_eq_true h7⟩
theorem chk_1_1 : ((List.range 5).all fun k => chB 1 1 k) = true := by decide +kernel
theorem chk_2_1 : ((List.range 5).all fun k => chB 2 1 k) = true := by decide +kernel
theorem chk_3_1 : ((List.range 5).all fun k => chB 3 1 k) = true := by decide +kernel
theorem chk_4_1 : ((List.range 5).all fun k => chB 4 1 k) = true := by decide +kernel
theorem chk_5_1 : ((List.range 5).all fun k => chB 5 1 k) = true := by decide +kernel
theorem chk_1_2 : ((List.range 5).all fun k => chB 1 2 k) = true := by decide +kernel
theorem chk_2_2 : ((List.range 5).all fun k => chB 2 2 k) = true := by decide +kernel
theorem chk_3_2 : ((List.range 5).all fun k => chB 3 2 k) = true := by decide +kernel
theorem chk_4_2 : ((List.range 5).all fun k => chB 4 2 k) = true := by decide +kernel
theorem chk_5_2 : ((List.range 5).all fun k => chB 5 2 k) = true := by decide +kernel
theorem chk_1_3 : ((List.range 5).all fun k => chB 1 3 k) = true := by decide +kernel
theorem chk_2_3 : ((List.range 5).all fun k => chB 2 3 k) = true := by decide +kernel
theorem chk_3_3 : ((List.range 5).all fun k => chB 3 3 k) = true := by decide +kernel
theorem chk_4_3 : ((List.range 5).all fun k => chB 4 3 k) = true := by decide +kernel
theorem chk_5_3 : ((List.range 5).all fun k => chB 5 3 k) = true := by decide +kernel
theorem chAll {p d k : Nat} (hp : 1 ≤ p ∧ p ≤ 5) (hd : 1 ≤ d ∧ d ≤ 3) (hk : k ≤ 4) : chOK p d k := by
  have g : ∀ {p d : Nat}, ((List.range 5).all fun k => chB p d k) = true → chOK p d k := fun h => chB_ok (List.all_eq_true.mp h k (List.mem_range.mpr (by omega)))
  rcases (show d = 1 ∨ d = 2 ∨ d = 3 by omega) with q | q | q <;> subst q <;> rcases (show p = 1 ∨ p = 2 ∨ p = 3 ∨ p = 4 ∨ p = 5 by omega) with q | q | q | q | q <;> subst q
  · exact g chk_1_1
  · exact g chk_2_1
  · exact g chk_3_1
  · exact g chk_4_1
  · exact g chk_5_1
  · exact g chk_1_2
  · exact g chk_2_2
  · exact g chk_3_2
  · exact g chk_4_2
  · exact g chk_5_2
  · exact g chk_1_3
  · exact g chk_2_3
  · exact g chk_3_3
  · exact g chk_4_3
  · exact g chk_5_3
def mZ (M : MT) (Z : Nat → Nat → Int64) : MT := (M.1, M.2.1, M.2.2.1, Z)
def OD (u : Nat → Int64) (f : Nat → Int64) : Prop := ∀ j, 1 ≤ j → j ≤ 5 → f j = u j
section M49
variable {p d kk : Nat} {w : Int32} {u : Nat → Int64} {Z : Nat → Nat → Int64}
variable {B nx hs : Nat} {X : TX} {K : Nat → ET}
variable {l : Launch} {G : zGT} {h h0 : hpT} {sz : Nat} {Post : Option Value → hpT → Nat → Prop} {m r : Nat} {M M0 : MT} {Q : RG} {E : ET}
theorem V_laldk {own : String} {cc : ByteArray} {nL : Nat} {rt : Option FieldType} {ini : Bool} {d kc ks : Nat} {lv : List (Option Value)} {st : List Value} (pc j : Nat) {a n : Nat} {f : Nat → Int64} {i : Int32} (hj : i.toNatClampNeg = j) (hd : decode cc pc = .ok (.laload, 1)) (ha : h a = some (aJ G n f)) (hin : vp_in i n) (kk : V l G own cc nL rt ini d kc ks Post (pc + 1) lv (.long (f j) :: st) h sz) : V l G own cc nL rt ini d kc ks Post pc lv (.int i :: .ref a :: st) h sz := by
  subst hj
  exact V_lald pc hd ha hin kk
theorem WM.z (hM : WM G h0 h m (mZ M Z)) : h (m + 9) = some (aJ G 6 (Z 0)) ∧ h (m + 10) = some (aJ G 6 (Z 1)) := ⟨hM.1.2.2.2.2.2.2.2.2.2.1, hM.1.2.2.2.2.2.2.2.2.2.2⟩
set_option maxHeartbeats 1000000 in
set_option maxRecDepth 100000 in
theorem l3_X6_chance {bl : Int64} {t to : Nat} {Y : Nat → Int64} (hp : 1 ≤ p ∧ p ≤ 5) (hd : 1 ≤ d ∧ d ≤ 3) (ht : 1 ≤ to ∧ to ≤ 5) (k : ∀ (h : hpT) (Z : Nat → Nat → Int64) (v9 : Option Value), WM G h0 h m (mZ M Z) → OD u (Z 0) → Z 1 to = rdO u p d to → (∀ j, ¬ j = to → Z 1 j = Y j) → V l G RX6 cX6_chance 10 (some .long) false 2 0 0 Post 199 [some (.ref m), some (.int (nI p)), some (.int (nI d)), some (.int (nI kk)), some (.int w), some (.long bl), none, some (.int (nI t)), some (.int (nI to)), v9] [] h sz) : ∀ i, i ≤ p - 1 → ∀ (h : hpT) (Z : Nat → Nat → Int64), WM G h0 h m (mZ M Z) → OD u (Z 0) → Z 1 to = thS u p d to i → (∀ j, ¬ j = to → Z 1 j = Y j) → V l G RX6 cX6_chance 10 (some .long) false 2 0 0 Post 140 [some (.ref m), some (.int (nI p)), some (.int (nI d)), some (.int (nI kk)), some (.int w), some (.long bl), none, some (.int (nI t)), some (.int (nI to)), some (.int (nI (i + 2)))] [] h sz := by
  refine up_ind (p - 1) (fun i hi ih h Z hM hO hT hY => ?_)
  refine V_iload 140 dX6_chance_140 rfl ?_
  refine V_iload_n 142 dX6_chance_142 rfl ?_
  refine V_icmp_gt 143 199 dX6_chance_143 rfl (fun c_143 => ?_) (fun c_143 => ?_)
  · have e143 : i = p - 1 := by
      have := (nI_ltI (by omega) (by omega)).mp c_143
      omega
    subst e143
    exact k h Z _ hM hO hT hY
  · have e143 : i + 2 ≤ p := Nat.le_of_not_lt (fun q => c_143 (nI_lt q (by omega)))
    refine V_aload_n 146 dX6_chance_146 rfl ?_
    refine V_get 147 dX6_chance_147 fdX6_38 (by first | exact hM.1.1 | exact hM.1.2.1 | exact hM.1.2.2.1 | exact hM.1.2.2.2.1 | exact hM.1.2.2.2.2.1 | exact hM.1.2.2.2.2.2.1 | exact hM.1.2.2.2.2.2.2.1 | exact hM.1.2.2.2.2.2.2.2.1 | exact hM.1.2.2.2.2.2.2.2.2.1 | exact hM.1.2.2.2.2.2.2.2.2.2.1 | exact hM.1.2.2.2.2.2.2.2.2.2.2) rfl ?_
    refine V_iload 150 dX6_chance_150 rfl ?_
    refine V_dup2 152 dX6_chance_152 ?_
    refine V_laldk 153 to (nI_clamp (by omega)) dX6_chance_153 hM.z.2 (vp_in_nI (by omega) (by decide)) ?_
    refine V_topl (thS u p d to i) hT ?_
    refine V_iload 154 dX6_chance_154 rfl ?_
    refine V_iload 156 dX6_chance_156 rfl ?_
    refine V_icmp_lt 158 190 dX6_chance_158 rfl (fun c_158 => ?_) (fun c_158 => ?_)
    · have e158 : i + 2 < to := (nI_ltI (by omega) (by omega)).mp c_158
      refine V_lconstv 190 0 dX6_chance_190 (by decide) ?_
      refine V_ladd 191 dX6_chance_191 ?_
      refine V_topl (thS u p d to (i + 1)) (by rw [thS]; first | rw [if_pos e158] | rw [if_neg e158]) ?_
      refine V_la1 192 to (nI_clamp (by omega)) dX6_chance_192 hM (vp_in_nI (by omega) (by decide)) (fun h hM => ?_)
      refine V_iinc 193 (nI (i + 1 + 2)) dX6_chance_193 rfl (nI_inc (i + 2)) rfl rfl ?_
      refine V_goto 196 140 dX6_chance_196 rfl ?_
      exact ih (i + 1) rfl (by omega) h (va_up Z 1 (vp_updL (Z 1) to (thS u p d to (i + 1)))) hM hO pk_uLs (fun j hj => (pk_uLn hj).trans (hY j hj))
    · have e158 : ¬ i + 2 < to := fun q => c_158 (nI_lt q (by omega))
      refine V_aload_n 161 dX6_chance_161 rfl ?_
      refine V_get 162 dX6_chance_162 fdX6_34 (by first | exact hM.1.1 | exact hM.1.2.1 | exact hM.1.2.2.1 | exact hM.1.2.2.2.1 | exact hM.1.2.2.2.2.1 | exact hM.1.2.2.2.2.2.1 | exact hM.1.2.2.2.2.2.2.1 | exact hM.1.2.2.2.2.2.2.2.1 | exact hM.1.2.2.2.2.2.2.2.2.1 | exact hM.1.2.2.2.2.2.2.2.2.2.1 | exact hM.1.2.2.2.2.2.2.2.2.2.2) rfl ?_
      refine V_iload 165 dX6_chance_165 rfl ?_
      refine V_laldk 167 (i + 2) (nI_clamp (by omega)) dX6_chance_167 hM.z.1 (vp_in_nI (by omega) (by decide)) ?_
      refine V_topl (u (i + 2)) (hO _ (by omega) (by omega)) ?_
      refine V_iload 168 dX6_chance_168 rfl ?_
      refine V_iload 170 dX6_chance_170 rfl ?_
      refine V_iload_n 172 dX6_chance_172 rfl ?_
      refine V_is3 173 dX6_chance_173 ksX6_285 rfl rfl (c_X6_leave (i + 2) to d (by omega) (by omega) (by omega) ?_)
      refine V_lmul 176 dX6_chance_176 ?_
      refine V_iload_n 177 dX6_chance_177 rfl ?_
      refine V_i2l 178 dX6_chance_178 ?_
      refine V_iload_n 179 dX6_chance_179 rfl ?_
      refine V_iload 180 dX6_chance_180 rfl ?_
      refine V_isub 182 dX6_chance_182 ?_
      refine V_topi (nI (p - (i + 2))) (pk_sub e143) ?_
      refine V_is2 183 dX6_chance_183 ksX6_277 rfl rfl (c_X6_power (p - (i + 2)) (by omega) ?_)
      refine V_lmul 186 dX6_chance_186 ?_
      refine V_goto 187 191 dX6_chance_187 rfl ?_
      refine V_ladd 191 dX6_chance_191 ?_
      refine V_topl (thS u p d to (i + 1)) (by rw [thS]; first | rw [if_pos e158] | rw [if_neg e158]) ?_
      refine V_la1 192 to (nI_clamp (by omega)) dX6_chance_192 hM (vp_in_nI (by omega) (by decide)) (fun h hM => ?_)
      refine V_iinc 193 (nI (i + 1 + 2)) dX6_chance_193 rfl (nI_inc (i + 2)) rfl rfl ?_
      refine V_goto 196 140 dX6_chance_196 rfl ?_
      exact ih (i + 1) rfl (by omega) h (va_up Z 1 (vp_updL (Z 1) to (thS u p d to (i + 1)))) hM hO pk_uLs (fun j hj => (pk_uLn hj).trans (hY j hj))
set_option maxHeartbeats 1000000 in
set_option maxRecDepth 100000 in
theorem l2_X6_chance {bl : Int64} {t : Nat} (hp : 1 ≤ p ∧ p ≤ 5) (hd : 1 ≤ d ∧ d ≤ 3) (k : ∀ (h : hpT) (Z : Nat → Nat → Int64) (v9 : Option Value), WM G h0 h m (mZ M Z) → OD u (Z 0) → OD (rdO u p d) (Z 1) → V l G RX6 cX6_chance 10 (some .long) false 2 0 0 Post 205 [some (.ref m), some (.int (nI p)), some (.int (nI d)), some (.int (nI kk)), some (.int w), some (.long bl), none, some (.int (nI t)), some (.int (nI (5 + 1))), v9] [] h sz) : ∀ i, i ≤ 5 → ∀ (h : hpT) (Z : Nat → Nat → Int64) (v9 : Option Value), WM G h0 h m (mZ M Z) → OD u (Z 0) → (∀ j, 1 ≤ j → j ≤ i → Z 1 j = rdO u p d j) → V l G RX6 cX6_chance 10 (some .long) false 2 0 0 Post 100 [some (.ref m), some (.int (nI p)), some (.int (nI d)), some (.int (nI kk)), some (.int w), some (.long bl), none, some (.int (nI t)), some (.int (nI (i + 1))), v9] [] h sz := by
  refine up_ind 5 (fun i hi ih h Z v9 hM hO hT => ?_)
  refine V_iload 100 dX6_chance_100 rfl ?_
  refine V_bipushv 102 (6) dX6_chance_102 (by decide) ?_
  refine V_icmp_ge 104 205 dX6_chance_104 rfl (fun c_104 => ?_) (fun c_104 => ?_)
  · have e104 : i = 5 := by
      have := (nI_leI (a := 6) (by decide) (by omega)).mp c_104
      omega
    subst e104
    exact k h Z v9 hM hO (fun j h1 h2 => hT j h1 h2)
  · have e104 : i < 5 := Nat.lt_of_not_le (fun q => c_104 (nI_le (a := 6) (by omega) (by omega)))
    refine V_aload_n 107 dX6_chance_107 rfl ?_
    refine V_get 108 dX6_chance_108 fdX6_38 (by first | exact hM.1.1 | exact hM.1.2.1 | exact hM.1.2.2.1 | exact hM.1.2.2.2.1 | exact hM.1.2.2.2.2.1 | exact hM.1.2.2.2.2.2.1 | exact hM.1.2.2.2.2.2.2.1 | exact hM.1.2.2.2.2.2.2.2.1 | exact hM.1.2.2.2.2.2.2.2.2.1 | exact hM.1.2.2.2.2.2.2.2.2.2.1 | exact hM.1.2.2.2.2.2.2.2.2.2.2) rfl ?_
    refine V_iload 111 dX6_chance_111 rfl ?_
    refine V_iload 113 dX6_chance_113 rfl ?_
    refine V_iconstv 115 (1) dX6_chance_115 (by decide) ?_
    refine V_icmp_ne 116 135 dX6_chance_116 rfl (fun c_116 => ?_) (fun c_116 => ?_)
    · have e116 : ¬ i + 1 = 1 := fun q => c_116 (by rw [q]; rfl)
      refine V_lconstv 135 0 dX6_chance_135 (by decide) ?_
      refine V_topl (thS u p d (i + 1) 0) (by rw [thS]; first | rw [if_pos e116] | rw [if_neg e116]) ?_
      refine V_la1 136 (i + 1) (nI_clamp (by omega)) dX6_chance_136 hM (vp_in_nI (by omega) (by decide)) (fun h hM => ?_)
      refine V_iconstv 137 (2) dX6_chance_137 (by decide) ?_
      refine V_istore 138 dX6_chance_138 rfl rfl ?_
      refine l3_X6_chance (Y := Z 1) hp hd (by omega) (fun h Z1 v9 hM hO1 hT1 hY => ?_) 0 (Nat.zero_le _) h (va_up Z 1 (vp_updL (Z 1) (i + 1) (thS u p d (i + 1) 0))) hM hO pk_uLs (fun j hj => pk_uLn hj)
      refine V_iinc 199 (nI (i + 1 + 1)) dX6_chance_199 rfl (nI_inc (i + 1)) rfl rfl ?_
      refine V_goto 202 100 dX6_chance_202 rfl ?_
      refine ih (i + 1) rfl (by omega) h Z1 v9 hM hO1 (fun j h1 h2 => ?_)
      by_cases e : j = i + 1
      · rw [e]
        exact hT1
      · rw [hY j e]
        exact hT j h1 (by omega)
    · have e116 : i + 1 = 1 := (nI_eq (b := 1) (by omega) (by decide)).mp c_116
      refine V_aload_n 119 dX6_chance_119 rfl ?_
      refine V_get 120 dX6_chance_120 fdX6_34 (by first | exact hM.1.1 | exact hM.1.2.1 | exact hM.1.2.2.1 | exact hM.1.2.2.2.1 | exact hM.1.2.2.2.2.1 | exact hM.1.2.2.2.2.2.1 | exact hM.1.2.2.2.2.2.2.1 | exact hM.1.2.2.2.2.2.2.2.1 | exact hM.1.2.2.2.2.2.2.2.2.1 | exact hM.1.2.2.2.2.2.2.2.2.2.1 | exact hM.1.2.2.2.2.2.2.2.2.2.2) rfl ?_
      refine V_iconstv 123 (1) dX6_chance_123 (by decide) ?_
      refine V_laldk 124 1 rfl dX6_chance_124 hM.z.1 (vp_in_nI (n := 1) (by omega) (by decide)) ?_
      refine V_topl (u 1) (hO 1 (by omega) (by omega)) ?_
      refine V_iload_n 125 dX6_chance_125 rfl ?_
      refine V_i2l 126 dX6_chance_126 ?_
      refine V_iload_n 127 dX6_chance_127 rfl ?_
      refine V_is2 128 dX6_chance_128 ksX6_277 rfl rfl (c_X6_power p (by omega) ?_)
      refine V_lmul 131 dX6_chance_131 ?_
      refine V_goto 132 136 dX6_chance_132 rfl ?_
      refine V_topl (thS u p d (i + 1) 0) (by rw [thS]; first | rw [if_pos e116] | rw [if_neg e116]) ?_
      refine V_la1 136 (i + 1) (nI_clamp (by omega)) dX6_chance_136 hM (vp_in_nI (by omega) (by decide)) (fun h hM => ?_)
      refine V_iconstv 137 (2) dX6_chance_137 (by decide) ?_
      refine V_istore 138 dX6_chance_138 rfl rfl ?_
      refine l3_X6_chance (Y := Z 1) hp hd (by omega) (fun h Z1 v9 hM hO1 hT1 hY => ?_) 0 (Nat.zero_le _) h (va_up Z 1 (vp_updL (Z 1) (i + 1) (thS u p d (i + 1) 0))) hM hO pk_uLs (fun j hj => pk_uLn hj)
      refine V_iinc 199 (nI (i + 1 + 1)) dX6_chance_199 rfl (nI_inc (i + 1)) rfl rfl ?_
      refine V_goto 202 100 dX6_chance_202 rfl ?_
      refine ih (i + 1) rfl (by omega) h Z1 v9 hM hO1 (fun j h1 h2 => ?_)
      by_cases e : j = i + 1
      · rw [e]
        exact hT1
      · rw [hY j e]
        exact hT j h1 (by omega)
set_option maxHeartbeats 1000000 in
set_option maxRecDepth 100000 in
theorem l4_X6_chance {bl : Int64} {t : Nat} (k : ∀ (h : hpT) (Z : Nat → Nat → Int64) (v9 : Option Value), WM G h0 h m (mZ M Z) → OD u (Z 0) → V l G RX6 cX6_chance 10 (some .long) false 2 0 0 Post 235 [some (.ref m), some (.int (nI p)), some (.int (nI d)), some (.int (nI kk)), some (.int w), some (.long bl), none, some (.int (nI t)), some (.int (nI (5 + 1))), v9] [] h sz) : ∀ i, i ≤ 5 → ∀ (h : hpT) (Z : Nat → Nat → Int64) (v9 : Option Value), WM G h0 h m (mZ M Z) → OD u (Z 1) → (∀ j, 1 ≤ j → j ≤ i → Z 0 j = u j) → V l G RX6 cX6_chance 10 (some .long) false 2 0 0 Post 208 [some (.ref m), some (.int (nI p)), some (.int (nI d)), some (.int (nI kk)), some (.int w), some (.long bl), none, some (.int (nI t)), some (.int (nI (i + 1))), v9] [] h sz := by
  refine up_ind 5 (fun i hi ih h Z v9 hM hT hO => ?_)
  refine V_iload 208 dX6_chance_208 rfl ?_
  refine V_bipushv 210 (6) dX6_chance_210 (by decide) ?_
  refine V_icmp_ge 212 235 dX6_chance_212 rfl (fun c_212 => ?_) (fun c_212 => ?_)
  · have e212 : i = 5 := by
      have := (nI_leI (a := 6) (by decide) (by omega)).mp c_212
      omega
    subst e212
    exact k h Z v9 hM (fun j h1 h2 => hO j h1 h2)
  · have e212 : i < 5 := Nat.lt_of_not_le (fun q => c_212 (nI_le (a := 6) (by omega) (by omega)))
    refine V_aload_n 215 dX6_chance_215 rfl ?_
    refine V_get 216 dX6_chance_216 fdX6_34 (by first | exact hM.1.1 | exact hM.1.2.1 | exact hM.1.2.2.1 | exact hM.1.2.2.2.1 | exact hM.1.2.2.2.2.1 | exact hM.1.2.2.2.2.2.1 | exact hM.1.2.2.2.2.2.2.1 | exact hM.1.2.2.2.2.2.2.2.1 | exact hM.1.2.2.2.2.2.2.2.2.1 | exact hM.1.2.2.2.2.2.2.2.2.2.1 | exact hM.1.2.2.2.2.2.2.2.2.2.2) rfl ?_
    refine V_iload 219 dX6_chance_219 rfl ?_
    refine V_aload_n 221 dX6_chance_221 rfl ?_
    refine V_get 222 dX6_chance_222 fdX6_38 (by first | exact hM.1.1 | exact hM.1.2.1 | exact hM.1.2.2.1 | exact hM.1.2.2.2.1 | exact hM.1.2.2.2.2.1 | exact hM.1.2.2.2.2.2.1 | exact hM.1.2.2.2.2.2.2.1 | exact hM.1.2.2.2.2.2.2.2.1 | exact hM.1.2.2.2.2.2.2.2.2.1 | exact hM.1.2.2.2.2.2.2.2.2.2.1 | exact hM.1.2.2.2.2.2.2.2.2.2.2) rfl ?_
    refine V_iload 225 dX6_chance_225 rfl ?_
    refine V_laldk 227 (i + 1) (nI_clamp (by omega)) dX6_chance_227 hM.z.2 (vp_in_nI (by omega) (by decide)) ?_
    refine V_topl (u (i + 1)) (hT _ (by omega) (by omega)) ?_
    refine V_la0 228 (i + 1) (nI_clamp (by omega)) dX6_chance_228 hM (vp_in_nI (by omega) (by decide)) (fun h hM => ?_)
    refine V_iinc 229 (nI (i + 1 + 1)) dX6_chance_229 rfl (nI_inc (i + 1)) rfl rfl ?_
    refine V_goto 232 208 dX6_chance_232 rfl ?_
    refine ih (i + 1) rfl (by omega) h (va_up Z 0 (vp_updL (Z 0) (i + 1) (u (i + 1)))) v9 hM hT (fun j h1 h2 => ?_)
    by_cases e : j = i + 1
    · rw [e]
      exact pk_uLs
    · exact (pk_uLn e).trans (hO j h1 (by omega))
set_option maxHeartbeats 1000000 in
set_option maxRecDepth 100000 in
theorem l5_X6_chance (hp : 1 ≤ p ∧ p ≤ 5) (hd : 1 ≤ d ∧ d ≤ 3) (hk : kk ≤ 4) (k : ∀ (h : hpT) (Z : Nat → Nat → Int64) (v8 v9 : Option Value), WM G h0 h m (mZ M Z) → OD (odN p d kk) (Z 0) → V l G RX6 cX6_chance 10 (some .long) false 2 0 0 Post 252 [some (.ref m), some (.int (nI p)), some (.int (nI d)), some (.int (nI kk)), some (.int w), some (.long (blN p d kk)), none, some (.int (nI kk)), v8, v9] [] h sz) : ∀ t, t ≤ kk → ∀ (h : hpT) (Z : Nat → Nat → Int64) (v8 v9 : Option Value), WM G h0 h m (mZ M Z) → OD (odN p d t) (Z 0) → V l G RX6 cX6_chance 10 (some .long) false 2 0 0 Post 91 [some (.ref m), some (.int (nI p)), some (.int (nI d)), some (.int (nI kk)), some (.int w), some (.long (blN p d t)), none, some (.int (nI t)), v8, v9] [] h sz := by
  refine up_ind kk (fun t hi ih h Z v8 v9 hM hO => ?_)
  refine V_iload 91 dX6_chance_91 rfl ?_
  refine V_iload_n 93 dX6_chance_93 rfl ?_
  refine V_icmp_ge 94 252 dX6_chance_94 rfl (fun c_94 => ?_) (fun c_94 => ?_)
  · have e94 : t = kk := by
      have := (nI_leI (by omega) (by omega)).mp c_94
      omega
    subst e94
    exact k h Z v8 v9 hM hO
  · have e94 : t < kk := Nat.lt_of_not_le (fun q => c_94 (nI_le q (by omega)))
    refine V_iconstv 97 (1) dX6_chance_97 (by decide) ?_
    refine V_istore 98 dX6_chance_98 rfl rfl ?_
    refine l2_X6_chance (u := odN p d t) hp hd (fun h Z1 v9 hM _ hT => ?_) 0 (Nat.zero_le _) h Z v9 hM hO (fun j h1 h2 => absurd h2 (by omega))
    refine V_iconstv 205 (1) dX6_chance_205 (by decide) ?_
    refine V_istore 206 dX6_chance_206 rfl rfl ?_
    refine l4_X6_chance (u := odN p d (t + 1)) (fun h Z2 v9 hM hO2 => ?_) 0 (Nat.zero_le _) h Z1 v9 hM hT (fun j h1 h2 => absurd h2 (by omega))
    refine V_lload 235 dX6_chance_235 rfl ?_
    refine V_iload_n 237 dX6_chance_237 rfl ?_
    refine V_i2l 238 dX6_chance_238 ?_
    refine V_iload_n 239 dX6_chance_239 rfl ?_
    refine V_is2 240 dX6_chance_240 ksX6_277 rfl rfl (c_X6_power p (by omega) ?_)
    refine V_lmul 243 dX6_chance_243 ?_
    refine V_topl (blN p d (t + 1)) rfl ?_
    refine V_lstore 244 dX6_chance_244 rfl rfl ?_
    refine V_iinc 246 (nI (t + 1)) dX6_chance_246 rfl (nI_inc t) rfl rfl ?_
    refine V_goto 249 91 dX6_chance_249 rfl ?_
    exact ih (t + 1) rfl (by omega) h Z2 _ _ hM hO2
set_option maxHeartbeats 1000000 in
set_option maxRecDepth 100000 in
theorem t_X6_chance {v8 v9 : Option Value} (hp : 1 ≤ p ∧ p ≤ 5) (hd : 1 ≤ d ∧ d ≤ 3) (hk : kk ≤ 4) (hM : WM G h0 h m (mZ M Z)) (hO : OD (odN p d kk) (Z 0)) (k : Post (some (.long (lwE (w1N d kk p) (pwN (nI d).toInt64 (5 * kk)) (if w = 0 then 1 else 0)))) h sz) : V l G RX6 cX6_chance 10 (some .long) false 2 0 0 Post 252 [some (.ref m), some (.int (nI p)), some (.int (nI d)), some (.int (nI kk)), some (.int w), some (.long (blN p d kk)), none, some (.int (nI kk)), v8, v9] [] h sz := by
  have ok := chAll hp hd hk
  have g0 : ¬ lN (Nat.gcd (chA p d kk) (chD p d kk)) = 0 := fun q => by
    have h1 := Nat.gcd_pos_of_pos_right (chA p d kk) ok.2.2.2.2.1
    have h2 := Nat.gcd_le_right (chA p d kk) ok.2.2.2.2.1
    have h3 := ok.2.2.2.1
    have := (pk_lEQ (b := 0) (by omega) (by decide)).mp q
    omega
  refine V_aload_n 252 dX6_chance_252 rfl ?_
  refine V_get 253 dX6_chance_253 fdX6_34 (by first | exact hM.1.1 | exact hM.1.2.1 | exact hM.1.2.2.1 | exact hM.1.2.2.2.1 | exact hM.1.2.2.2.2.1 | exact hM.1.2.2.2.2.2.1 | exact hM.1.2.2.2.2.2.2.1 | exact hM.1.2.2.2.2.2.2.2.1 | exact hM.1.2.2.2.2.2.2.2.2.1 | exact hM.1.2.2.2.2.2.2.2.2.2.1 | exact hM.1.2.2.2.2.2.2.2.2.2.2) rfl ?_
  refine V_iconstv 256 (1) dX6_chance_256 (by decide) ?_
  refine V_laldk 257 1 rfl dX6_chance_257 hM.z.1 (vp_in_nI (n := 1) (by omega) (by decide)) ?_
  refine V_topl (lN (chA p d kk)) ((hO 1 (by omega) (by omega)).trans ok.1) ?_
  refine V_lload 258 dX6_chance_258 rfl ?_
  refine V_topl (lN (chD p d kk)) ok.2.1 ?_
  refine V_is2 260 dX6_chance_260 ksX6_273 rfl rfl (c_X6_commonOf (chA p d kk) (chD p d kk) (by have := ok.2.2.1; omega) (by have := ok.2.2.2.1; omega) ?_)
  refine V_lstore 263 dX6_chance_263 rfl rfl ?_
  refine V_iload 265 dX6_chance_265 rfl ?_
  refine V_if_ne 267 282 dX6_chance_267 rfl (fun c_267 => ?_) (fun c_267 => ?_)
  · refine V_lload 282 dX6_chance_282 rfl ?_
    refine V_topl (lN (chD p d kk)) ok.2.1 ?_
    refine V_lload 284 dX6_chance_284 rfl ?_
    refine V_ldiv 286 dX6_chance_286 g0 ?_
    refine V_lret 287 dX6_chance_287 ?_
    first
    | (rw [if_pos c_267] at k; rw [← ok.2.2.2.2.2.1] at k; exact k)
    | (rw [if_neg c_267] at k; rw [← ok.2.2.2.2.2.2] at k; exact k)
  · refine V_aload_n 270 dX6_chance_270 rfl ?_
    refine V_get 271 dX6_chance_271 fdX6_34 (by first | exact hM.1.1 | exact hM.1.2.1 | exact hM.1.2.2.1 | exact hM.1.2.2.2.1 | exact hM.1.2.2.2.2.1 | exact hM.1.2.2.2.2.2.1 | exact hM.1.2.2.2.2.2.2.1 | exact hM.1.2.2.2.2.2.2.2.1 | exact hM.1.2.2.2.2.2.2.2.2.1 | exact hM.1.2.2.2.2.2.2.2.2.2.1 | exact hM.1.2.2.2.2.2.2.2.2.2.2) rfl ?_
    refine V_iconstv 274 (1) dX6_chance_274 (by decide) ?_
    refine V_laldk 275 1 rfl dX6_chance_275 hM.z.1 (vp_in_nI (n := 1) (by omega) (by decide)) ?_
    refine V_topl (lN (chA p d kk)) ((hO 1 (by omega) (by omega)).trans ok.1) ?_
    refine V_lload 276 dX6_chance_276 rfl ?_
    refine V_ldiv 278 dX6_chance_278 g0 ?_
    refine V_goto 279 287 dX6_chance_279 rfl ?_
    refine V_lret 287 dX6_chance_287 ?_
    first
    | (rw [if_pos c_267] at k; rw [← ok.2.2.2.2.2.1] at k; exact k)
    | (rw [if_neg c_267] at k; rw [← ok.2.2.2.2.2.2] at k; exact k)
set_option maxHeartbeats 1000000 in
set_option maxRecDepth 100000 in
theorem l0_X6_chance (hp : 1 ≤ p ∧ p ≤ 5) (hd : 1 ≤ d ∧ d ≤ 3) (k : ∀ (h : hpT) (Z : Nat → Nat → Int64), WM G h0 h m (mZ M Z) → OD (odN p d 0) (Z 0) → V l G RX6 cX6_chance 10 (some .long) false 2 0 0 Post 85 [some (.ref m), some (.int (nI p)), some (.int (nI d)), some (.int (nI kk)), some (.int w), some (.int (nI 6))] [] h sz) : ∀ i, i ≤ 6 → ∀ (h : hpT) (Z : Nat → Nat → Int64), WM G h0 h m (mZ M Z) → (∀ j, j < i → Z 0 j = odN p d 0 j) → V l G RX6 cX6_chance 10 (some .long) false 2 0 0 Post 54 [some (.ref m), some (.int (nI p)), some (.int (nI d)), some (.int (nI kk)), some (.int w), some (.int (nI i))] [] h sz := by
  refine up_ind 6 (fun i hi ih h Z hM hO => ?_)
  refine V_iload 54 dX6_chance_54 rfl ?_
  refine V_bipushv 56 (6) dX6_chance_56 (by decide) ?_
  refine V_icmp_ge 58 85 dX6_chance_58 rfl (fun c_58 => ?_) (fun c_58 => ?_)
  · have e58 : i = 6 := Nat.le_antisymm hi ((nI_leI (a := 6) (by decide) (by omega)).mp c_58)
    subst e58
    exact k h Z hM (fun j _ h2 => hO j (by omega))
  · have e58 : i < 6 := Nat.lt_of_not_le (fun q => c_58 (nI_le (a := 6) q (by omega)))
    refine V_aload_n 61 dX6_chance_61 rfl ?_
    refine V_get 62 dX6_chance_62 fdX6_34 (by first | exact hM.1.1 | exact hM.1.2.1 | exact hM.1.2.2.1 | exact hM.1.2.2.2.1 | exact hM.1.2.2.2.2.1 | exact hM.1.2.2.2.2.2.1 | exact hM.1.2.2.2.2.2.2.1 | exact hM.1.2.2.2.2.2.2.2.1 | exact hM.1.2.2.2.2.2.2.2.2.1 | exact hM.1.2.2.2.2.2.2.2.2.2.1 | exact hM.1.2.2.2.2.2.2.2.2.2.2) rfl ?_
    refine V_iload 65 dX6_chance_65 rfl ?_
    refine V_iload 67 dX6_chance_67 rfl ?_
    refine V_iload_n 69 dX6_chance_69 rfl ?_
    refine V_icmp_ne 70 77 dX6_chance_70 rfl (fun c_70 => ?_) (fun c_70 => ?_)
    · have e70 : (0 : Int64) = odN p d 0 i := (if_neg (fun q => c_70 (by rw [q]))).symm
      refine V_lconstv 77 0 dX6_chance_77 (by decide) ?_
      refine V_topl _ e70 ?_
      refine V_la0 78 i (nI_clamp (by omega)) dX6_chance_78 hM (vp_in_nI (by omega) (by decide)) (fun h hM => ?_)
      refine V_iinc 79 (nI (i + 1)) dX6_chance_79 rfl (nI_inc i) rfl rfl ?_
      refine V_goto 82 54 dX6_chance_82 rfl ?_
      refine ih (i + 1) rfl (by omega) h (va_up Z 0 (vp_updL (Z 0) i (odN p d 0 i))) hM (fun j h1 => ?_)
      by_cases e : j = i
      · rw [e]
        exact pk_uLs
      · exact (pk_uLn e).trans (hO j (by omega))
    · have e70 : (1 : Int64) = odN p d 0 i := (if_pos ((nI_eq (by omega) (by omega)).mp c_70)).symm
      refine V_lconstv 73 1 dX6_chance_73 (by decide) ?_
      refine V_goto 74 78 dX6_chance_74 rfl ?_
      refine V_topl _ e70 ?_
      refine V_la0 78 i (nI_clamp (by omega)) dX6_chance_78 hM (vp_in_nI (by omega) (by decide)) (fun h hM => ?_)
      refine V_iinc 79 (nI (i + 1)) dX6_chance_79 rfl (nI_inc i) rfl rfl ?_
      refine V_goto 82 54 dX6_chance_82 rfl ?_
      refine ih (i + 1) rfl (by omega) h (va_up Z 0 (vp_updL (Z 0) i (odN p d 0 i))) hM (fun j h1 => ?_)
      by_cases e : j = i
      · rw [e]
        exact pk_uLs
      · exact (pk_uLn e).trans (hO j (by omega))
set_option maxHeartbeats 1000000 in
set_option maxRecDepth 100000 in
theorem tm_X6_chance (hp : 1 ≤ p ∧ p ≤ 5) (hd : 1 ≤ d ∧ d ≤ 3) (hk : kk ≤ 4) (hM : WM G h0 h m M) (hR : REL B X Q E nx hs K M) (k : ∀ h1 M1, WM G h0 h1 m M1 → REL B X Q E nx hs K M1 → Post (some (.long (lwE (w1N d kk p) (pwN (nI d).toInt64 (5 * kk)) (if w = 0 then 1 else 0)))) h1 sz) : V l G RX6 cX6_chance 10 (some .long) false 2 0 0 Post 51 [some (.ref m), some (.int (nI p)), some (.int (nI d)), some (.int (nI kk)), some (.int w)] [] h sz := by
  refine V_iconstv 51 (0) dX6_chance_51 (by decide) ?_
  refine V_istore 52 dX6_chance_52 rfl rfl ?_
  refine l0_X6_chance hp hd (fun h Z hM hO => ?_) 0 (Nat.zero_le _) h M.2.2.2 hM (fun j hj => absurd hj (Nat.not_lt_zero j))
  refine V_lconstv 85 1 dX6_chance_85 (by decide) ?_
  refine V_lstore 86 dX6_chance_86 rfl rfl ?_
  refine V_iconstv 88 (0) dX6_chance_88 (by decide) ?_
  refine V_istore 89 dX6_chance_89 rfl rfl ?_
  refine V_lvw (zget_pad _) (V_lvw (zget_pad _) ?_)
  exact l5_X6_chance hp hd hk (fun h Z v8 v9 hM hO => t_X6_chance hp hd hk hM hO (k h _ hM hR)) 0 (Nat.zero_le _) h Z none none hM hO
set_option maxHeartbeats 1000000 in
set_option maxRecDepth 100000 in
theorem c_X6_chance (hM : WM G h0 h m M) (hR : REL B X Q E nx hs K M) {a b c : Int32} (k0 : ¬ ((1 ≤ a ∧ a ≤ 5) ∧ (1 ≤ b ∧ b ≤ 3) ∧ (0 ≤ c ∧ c ≤ 4) ∧ (0 ≤ w ∧ w ≤ 1)) → Post (some (.long (-1000002))) h sz) (k1 : ∀ d M0, b = nI d → c = nI M0 → 1 ≤ d → d ≤ 3 → M0 ≤ 4 → (1 ≤ a ∧ a ≤ 5) → (0 ≤ w ∧ w ≤ 1) → ∀ h1 M1, WM G h0 h1 m M1 → REL B X Q E nx hs K M1 → Post (some (.long (lwE (w1N d M0 a.toNatClampNeg) (pwN (nI d).toInt64 (5 * M0)) (if w = 0 then 1 else 0)))) h1 sz) : Cn l G yX6_chance cX6_chance 10 (some .long) 2 0 0 [.ref m, .int a, .int b, .int c, .int w] h sz Post := by
  refine Cn.of RX6 false (by decide) rfl (fun q => by cases q) (Nat.le_of_ble_eq_true rfl) ?_
  refine V_iload_n 0 dX6_chance_0 rfl ?_
  refine V_i2l 1 dX6_chance_1 ?_
  refine V_lconstv 2 1 dX6_chance_2 (by decide) ?_
  refine V_ldc2 3 dX6_chance_3 knX6_281 ?_
  refine V_is3 6 dX6_chance_6 ksX6_45 rfl rfl (c_X6_inI (lo := 1) (hi := 5) rfl rfl (fun c_6 => ?_) (fun c_6 => ?_))
  · refine V_if_eq 9 47 dX6_chance_9 rfl (fun q => absurd q (by decide)) (fun _ => ?_)
    refine V_iload_n 12 dX6_chance_12 rfl ?_
    refine V_i2l 13 dX6_chance_13 ?_
    refine V_lconstv 14 1 dX6_chance_14 (by decide) ?_
    refine V_ldc2 15 dX6_chance_15 knX6_229 ?_
    refine V_is3 18 dX6_chance_18 ksX6_45 rfl rfl (c_X6_inI (lo := 1) (hi := 3) rfl rfl (fun c_18 => ?_) (fun c_18 => ?_))
    · refine V_if_eq 21 47 dX6_chance_21 rfl (fun q => absurd q (by decide)) (fun _ => ?_)
      refine V_iload_n 24 dX6_chance_24 rfl ?_
      refine V_i2l 25 dX6_chance_25 ?_
      refine V_lconstv 26 0 dX6_chance_26 (by decide) ?_
      refine V_ldc2 27 dX6_chance_27 knX6_205 ?_
      refine V_is3 30 dX6_chance_30 ksX6_45 rfl rfl (c_X6_inI (lo := 0) (hi := 4) rfl rfl (fun c_30 => ?_) (fun c_30 => ?_))
      · refine V_if_eq 33 47 dX6_chance_33 rfl (fun q => absurd q (by decide)) (fun _ => ?_)
        refine V_iload 36 dX6_chance_36 rfl ?_
        refine V_i2l 38 dX6_chance_38 ?_
        refine V_lconstv 39 0 dX6_chance_39 (by decide) ?_
        refine V_lconstv 40 1 dX6_chance_40 (by decide) ?_
        refine V_is3 41 dX6_chance_41 ksX6_45 rfl rfl (c_X6_inI (lo := 0) (hi := 1) rfl rfl (fun c_41 => ?_) (fun c_41 => ?_))
        · refine V_if_ne 44 51 dX6_chance_44 rfl (fun _ => ?_) (fun q => absurd q (by decide))
          obtain ⟨p, p5, rfl⟩ := nI_of2 (x := a) (M := 5) (n := 5) rfl (Int32.not_lt.mpr (Int32.le_trans (by decide) c_6.1)) c_6.2
          have p1 : 1 ≤ p := (nI_leI (a := 1) (by decide) (by omega)).mp c_6.1
          obtain ⟨d, d3, rfl⟩ := nI_of2 (x := b) (M := 3) (n := 3) rfl (Int32.not_lt.mpr (Int32.le_trans (by decide) c_18.1)) c_18.2
          have d1 : 1 ≤ d := (nI_leI (a := 1) (by decide) (by omega)).mp c_18.1
          obtain ⟨kk, k4, rfl⟩ := nI_of2 (x := c) (M := 4) (n := 4) rfl (Int32.not_lt.mpr c_30.1) c_30.2
          refine tm_X6_chance ⟨p1, p5⟩ ⟨d1, d3⟩ k4 hM hR (fun h1 M1 hM1 hR1 => ?_)
          have e := k1 d kk rfl rfl d1 d3 k4 c_6 c_41 h1 M1 hM1 hR1
          rw [nI_clamp (by omega)] at e
          exact e
        · refine V_if_ne 44 51 dX6_chance_44 rfl (fun q => absurd q (by decide)) (fun _ => ?_)
          refine V_ldc2 47 dX6_chance_47 knX6_283 ?_
          refine V_lret 50 dX6_chance_50 ?_
          first | exact k0 (fun q => c_6 q.1) | exact k0 (fun q => c_18 q.2.1) | exact k0 (fun q => c_30 q.2.2.1) | exact k0 (fun q => c_41 q.2.2.2)
      · refine V_if_eq 33 47 dX6_chance_33 rfl (fun _ => ?_) (fun q => absurd q (by decide))
        refine V_ldc2 47 dX6_chance_47 knX6_283 ?_
        refine V_lret 50 dX6_chance_50 ?_
        first | exact k0 (fun q => c_6 q.1) | exact k0 (fun q => c_18 q.2.1) | exact k0 (fun q => c_30 q.2.2.1) | exact k0 (fun q => c_41 q.2.2.2)
    · refine V_if_eq 21 47 dX6_chance_21 rfl (fun _ => ?_) (fun q => absurd q (by decide))
      refine V_ldc2 47 dX6_chance_47 knX6_283 ?_
      refine V_lret 50 dX6_chance_50 ?_
      first | exact k0 (fun q => c_6 q.1) | exact k0 (fun q => c_18 q.2.1) | exact k0 (fun q => c_30 q.2.2.1) | exact k0 (fun q => c_41 q.2.2.2)
  · refine V_if_eq 9 47 dX6_chance_9 rfl (fun _ => ?_) (fun q => absurd q (by decide))
    refine V_ldc2 47 dX6_chance_47 knX6_283 ?_
    refine V_lret 50 dX6_chance_50 ?_
    first | exact k0 (fun q => c_6 q.1) | exact k0 (fun q => c_18 q.2.1) | exact k0 (fun q => c_30 q.2.2.1) | exact k0 (fun q => c_41 q.2.2.2)
end M49
