/-- a row that begins -/
def bgF (f S X : Nat → Int32) (a d : Int32) (n i : Nat) : Nat → Int32 := fun q => if q < 168 then (if q = 0 then a else if q = 1 then d else if 12 ≤ q ∧ q < 12 + 10 * n then (if (q - 12) % 10 = 0 then S ((q - 12) / 10) else if (q - 12) % 10 = 2 ∨ (q - 12) % 10 = 3 ∨ (q - 12) % 10 = 4 then -1 else if (q - 12) % 10 = 8 ∧ (q - 12) / 10 < i then X ((q - 12) / 10) else 0) else 0) else f q
theorem bgF_1 (f S X : Nat → Int32) {n : Nat} (hn : n < 6) : upd (upd (upd (upd (bgF f S X 0 0 n 0) (ctA 0 n 0) (S n)) (ctA 0 n 2) (-1)) (ctA 0 n 3) (-1)) (ctA 0 n 4) (-1) = bgF f S X 0 0 (n + 1) 0 := by
  funext q
  rw [upd_if, upd_if, upd_if, upd_if]
  unfold bgF ctA
  by_cases h4 : q = 168 * 0 + 12 + 10 * n + 4
  · rw [if_pos h4, if_pos (by omega), if_neg (by omega), if_neg (by omega), if_pos (by omega), if_neg (by omega), if_pos (by omega)]
  · rw [if_neg h4]
    by_cases h3 : q = 168 * 0 + 12 + 10 * n + 3
    · rw [if_pos h3, if_pos (by omega), if_neg (by omega), if_neg (by omega), if_pos (by omega), if_neg (by omega), if_pos (by omega)]
    · rw [if_neg h3]
      by_cases h2 : q = 168 * 0 + 12 + 10 * n + 2
      · rw [if_pos h2, if_pos (by omega), if_neg (by omega), if_neg (by omega), if_pos (by omega), if_neg (by omega), if_pos (by omega)]
      · rw [if_neg h2]
        by_cases h0 : q = 168 * 0 + 12 + 10 * n + 0
        · rw [if_pos h0, if_pos (by omega), if_neg (by omega), if_neg (by omega), if_pos (by omega), if_pos (by omega), show (q - 12) / 10 = n by omega]
        · rw [if_neg h0]
          by_cases hq : q < 168
          · rw [if_pos hq, if_pos hq]
            by_cases z0 : q = 0
            · rw [if_pos z0, if_pos z0]
            · rw [if_neg z0, if_neg z0]
              by_cases z1 : q = 1
              · rw [if_pos z1, if_pos z1]
              · rw [if_neg z1, if_neg z1]
                by_cases b : 12 ≤ q ∧ q < 12 + 10 * n
                · rw [if_pos b, if_pos (c := 12 ≤ q ∧ q < 12 + 10 * (n + 1)) (by omega)]
                · rw [if_neg b]
                  by_cases b1 : 12 ≤ q ∧ q < 12 + 10 * (n + 1)
                  · rw [if_pos b1, if_neg (by omega), if_neg (by omega), if_neg (by omega)]
                  · rw [if_neg b1]
          · rw [if_neg hq, if_neg hq]
theorem bgF_0 (f S X : Nat → Int32) (q : Nat) : bgF f S X 0 0 0 0 q = if q < 168 then 0 else f q := by
  unfold bgF
  by_cases h : q < 168
  · rw [if_pos h, if_pos h]
    by_cases z0 : q = 0
    · rw [if_pos z0]
    · rw [if_neg z0]
      by_cases z1 : q = 1
      · rw [if_pos z1]
      · rw [if_neg z1, if_neg (by omega)]
  · rw [if_neg h, if_neg h]
theorem bgF_a (f S X : Nat → Int32) (a d : Int32) (n : Nat) : upd (upd (bgF f S X 0 0 n 0) 0 a) 1 d = bgF f S X a d n 0 := by
  funext q
  rw [upd_if, upd_if]
  unfold bgF
  by_cases h1 : q = 1
  · rw [if_pos h1, if_pos (by omega), if_neg (by omega), if_pos h1]
  · rw [if_neg h1]
    by_cases h0 : q = 0
    · rw [if_pos h0, if_pos (by omega), if_pos h0]
    · rw [if_neg h0, if_neg h0, if_neg h1, if_neg h0, if_neg h1]
theorem bgF_8 (f S X : Nat → Int32) (a d : Int32) {n i : Nat} (hi : i < n) (hn : n ≤ 6) : upd (bgF f S X a d n i) (ctA 0 i 8) (X i) = bgF f S X a d n (i + 1) := by
  funext q
  rw [upd_if]
  unfold bgF ctA
  by_cases h8 : q = 168 * 0 + 12 + 10 * i + 8
  · rw [if_pos h8, if_pos (by omega), if_neg (by omega), if_neg (by omega), if_pos (by omega), if_neg (by omega), if_neg (by omega), if_pos (by omega), show (q - 12) / 10 = i by omega]
  · rw [if_neg h8]
    by_cases hq : q < 168
    · rw [if_pos hq, if_pos hq]
      by_cases z0 : q = 0
      · rw [if_pos z0, if_pos z0]
      · rw [if_neg z0, if_neg z0]
        by_cases z1 : q = 1
        · rw [if_pos z1, if_pos z1]
        · rw [if_neg z1, if_neg z1]
          by_cases b : 12 ≤ q ∧ q < 12 + 10 * n
          · rw [if_pos b, if_pos b]
            by_cases c0 : (q - 12) % 10 = 0
            · rw [if_pos c0, if_pos c0]
            · rw [if_neg c0, if_neg c0]
              by_cases c2 : (q - 12) % 10 = 2 ∨ (q - 12) % 10 = 3 ∨ (q - 12) % 10 = 4
              · rw [if_pos c2, if_pos c2]
              · rw [if_neg c2, if_neg c2]
                by_cases c8 : (q - 12) % 10 = 8 ∧ (q - 12) / 10 < i
                · rw [if_pos c8, if_pos (by omega)]
                · rw [if_neg c8, if_neg (by omega)]
          · rw [if_neg b, if_neg b]
    · rw [if_neg hq, if_neg hq]
theorem bgF_c (f S X : Nat → Int32) (a d : Int32) {n i j w : Nat} (hj : j < n) (hn : n ≤ 6) (hw : w < 10) : bgF f S X a d n i (ctA 0 j w) = if w = 0 then S j else if w = 2 ∨ w = 3 ∨ w = 4 then -1 else if w = 8 ∧ j < i then X j else 0 := by
  unfold bgF ctA
  rw [if_pos (by omega), if_neg (by omega), if_neg (by omega), if_pos (by omega), show (168 * 0 + 12 + 10 * j + w - 12) % 10 = w by omega, show (168 * 0 + 12 + 10 * j + w - 12) / 10 = j by omega]
theorem RowE.bg {f S X : Nat → Int32} {a d s : Int32} {n i : Nat} {Q : RG} {E : ET} (hn : Q.1 ≤ 6) (hS : ∀ j, j < Q.1 → S j = Q.2.2 j) (hX : ¬ a = 0 → i = Q.1 ∧ ∀ j, j < Q.1 → X j = sdx s j) (hq : n = Q.1) : RowE (bgF f S X a d n i) 0 Q.1 (startE Q E a d s) := by
  subst hq
  have g : ∀ j k, j < Q.1 → k < 8 → eC (startE Q E a d s) (8 * j + k) = iniV Q s j k := fun j k h1 h2 => iniC_at Q _ (by omega) h2
  refine ⟨rfl, fun _ => rfl, ?_, fun k hk => ?_, fun j hj => ?_, fun k _ hk => absurd hk (Nat.not_lt_zero k), Nat.zero_le _⟩
  · show bgF f S X a d Q.1 i 2 = 0
    unfold bgF
    rw [if_pos (by omega), if_neg (by omega), if_neg (by omega), if_neg (by omega)]
  · show bgF f S X a d Q.1 i (168 * 0 + 3 + k) = 0
    unfold bgF
    rw [if_pos (by omega), if_neg (by omega), if_neg (by omega), if_neg (by omega)]
  · have c := fun w hw => bgF_c f S X a d (i := i) hj hn (w := w) hw
    have g0 : eC (startE Q E a d s) (8 * j) = 0 := g j 0 hj (by omega)
    rw [c 0 (by omega), c 1 (by omega), c 2 (by omega), c 3 (by omega), c 4 (by omega), c 5 (by omega), c 6 (by omega), c 7 (by omega), c 8 (by omega), g j 1 hj (by omega), g0, g j 2 hj (by omega), g j 3 hj (by omega), g j 4 hj (by omega), g j 5 hj (by omega), g j 6 hj (by omega), g j 7 hj (by omega)]
    refine ⟨hS j hj, rfl, rfl, rfl, rfl, fun _ => rfl, fun _ => rfl, fun _ q => absurd (show (0 : Int32) = 1 from q) (by decide), fun q => ?_⟩
    obtain ⟨x1, x2⟩ := hX q
    rw [if_neg (by omega), if_neg (by omega), if_pos ⟨rfl, by omega⟩]
    exact x2 j hj
section M39
variable {B nx hs : Nat} {X : TX} {K : Nat → ET}
variable {l : Launch} {G : zGT} {h h0 : hpT} {sz : Nat} {Post : Option Value → hpT → Nat → Prop} {m r : Nat} {M M0 : MT} {Q : RG} {E : ET}
def zrF (f : Nat → Int32) (i : Nat) : Nat → Int32 := fun q => if q < i then 0 else f q
theorem zrF_s (f : Nat → Int32) (i : Nat) : upd (zrF f i) i 0 = zrF f (i + 1) := by
  funext q
  rw [upd_if]
  unfold zrF
  by_cases h : q = i
  · rw [if_pos h, if_pos (by omega)]
  · rw [if_neg h]
    by_cases h2 : q < i
    · rw [if_pos h2, if_pos (by omega)]
    · rw [if_neg h2, if_neg (by omega)]
theorem zrF_0 (f : Nat → Int32) : zrF f 0 = f := by
  funext q
  unfold zrF
  rw [if_neg (by omega)]
theorem zrF_e (f S X : Nat → Int32) : zrF f 168 = bgF f S X 0 0 0 0 := by
  funext q
  rw [bgF_0]
  rfl
set_option maxHeartbeats 1000000 in
set_option maxRecDepth 100000 in
theorem lq_X6_clears {f X : Nat → Int32} (n : Nat) (hn : n ≤ 6) (hn0 : M.1 0 = nI n) (k : ∀ h, WM G h0 h m (mJ M 3 (bgF f (M.2.2.1 2) X 0 0 n 0)) → Post none h sz) : ∀ i, i ≤ n → ∀ h, WM G h0 h m (mJ M 3 (bgF f (M.2.2.1 2) X 0 0 i 0)) → V l G RX6 cX6_clears 2 none false 2 0 0 Post 24 [some (.ref m), some (.int (nI i))] [] h sz := by
  refine up_ind n (fun i hi ih h hM => ?_)
  refine V_iload_n 24 dX6_clears_24 rfl ?_
  refine V_aload_n 25 dX6_clears_25 rfl ?_
  refine V_get 26 dX6_clears_26 fdX6_41 (by first | exact hM.1.1 | exact hM.1.2.1 | exact hM.1.2.2.1 | exact hM.1.2.2.2.1 | exact hM.1.2.2.2.2.1 | exact hM.1.2.2.2.2.2.1 | exact hM.1.2.2.2.2.2.2.1 | exact hM.1.2.2.2.2.2.2.2.1 | exact hM.1.2.2.2.2.2.2.2.2.1 | exact hM.1.2.2.2.2.2.2.2.2.2.1 | exact hM.1.2.2.2.2.2.2.2.2.2.2) rfl ?_
  refine V_topi (nI n) hn0 ?_
  refine V_icmp_ge 29 75 dX6_clears_29 rfl (fun c_29 => ?_) (fun c_29 => ?_)
  · have e_9 : i = n := Nat.le_antisymm hi ((nI_leI (by omega) (by omega)).mp c_29)
    subst e_9
    refine V_vret 75 dX6_clears_75 ?_
    exact k h hM
  · have e_9 : i < n := Nat.lt_of_not_le (fun q => c_29 (nI_le q (by omega)))
    refine V_aload_n 32 dX6_clears_32 rfl ?_
    refine V_iconstv 33 (0) dX6_clears_33 (by decide) ?_
    refine V_iload_n 34 dX6_clears_34 rfl ?_
    refine V_iconstv 35 (0) dX6_clears_35 (by decide) ?_
    refine V_aload_n 36 dX6_clears_36 rfl ?_
    refine V_get 37 dX6_clears_37 fdX6_13 (by first | exact hM.1.1 | exact hM.1.2.1 | exact hM.1.2.2.1 | exact hM.1.2.2.2.1 | exact hM.1.2.2.2.2.1 | exact hM.1.2.2.2.2.2.1 | exact hM.1.2.2.2.2.2.2.1 | exact hM.1.2.2.2.2.2.2.2.1 | exact hM.1.2.2.2.2.2.2.2.2.1 | exact hM.1.2.2.2.2.2.2.2.2.2.1 | exact hM.1.2.2.2.2.2.2.2.2.2.2) rfl ?_
    refine V_iload_n 40 dX6_clears_40 rfl ?_
    refine V_ialdk 41 i (nI_clamp (by omega)) dX6_clears_41 (by first | exact hM.1.1 | exact hM.1.2.1 | exact hM.1.2.2.1 | exact hM.1.2.2.2.1 | exact hM.1.2.2.2.2.1 | exact hM.1.2.2.2.2.2.1 | exact hM.1.2.2.2.2.2.2.1 | exact hM.1.2.2.2.2.2.2.2.1 | exact hM.1.2.2.2.2.2.2.2.2.1 | exact hM.1.2.2.2.2.2.2.2.2.2.1 | exact hM.1.2.2.2.2.2.2.2.2.2.2) (vp_in_nI (by omega) (by decide)) ?_
    refine V_iv4 42 dX6_clears_42 kvX6_59 rfl (by first | exact hM.1.1 | exact hM.1.2.1 | exact hM.1.2.2.1 | exact hM.1.2.2.2.1 | exact hM.1.2.2.2.2.1 | exact hM.1.2.2.2.2.2.1 | exact hM.1.2.2.2.2.2.2.1 | exact hM.1.2.2.2.2.2.2.2.1 | exact hM.1.2.2.2.2.2.2.2.2.1 | exact hM.1.2.2.2.2.2.2.2.2.2.1 | exact hM.1.2.2.2.2.2.2.2.2.2.2) rfl rfl (c_X6_set hM 0 i 0 (by unfold ctA; omega) (fun h hM => ?_))
    refine V_aload_n 45 dX6_clears_45 rfl ?_
    refine V_iconstv 46 (0) dX6_clears_46 (by decide) ?_
    refine V_iload_n 47 dX6_clears_47 rfl ?_
    refine V_iconstv 48 (2) dX6_clears_48 (by decide) ?_
    refine V_iconstv 49 (-1) dX6_clears_49 (by decide) ?_
    refine V_iv4 50 dX6_clears_50 kvX6_59 rfl (by first | exact hM.1.1 | exact hM.1.2.1 | exact hM.1.2.2.1 | exact hM.1.2.2.2.1 | exact hM.1.2.2.2.2.1 | exact hM.1.2.2.2.2.2.1 | exact hM.1.2.2.2.2.2.2.1 | exact hM.1.2.2.2.2.2.2.2.1 | exact hM.1.2.2.2.2.2.2.2.2.1 | exact hM.1.2.2.2.2.2.2.2.2.2.1 | exact hM.1.2.2.2.2.2.2.2.2.2.2) rfl rfl (c_X6_set hM 0 i 2 (by unfold ctA; omega) (fun h hM => ?_))
    refine V_aload_n 53 dX6_clears_53 rfl ?_
    refine V_iconstv 54 (0) dX6_clears_54 (by decide) ?_
    refine V_iload_n 55 dX6_clears_55 rfl ?_
    refine V_iconstv 56 (3) dX6_clears_56 (by decide) ?_
    refine V_iconstv 57 (-1) dX6_clears_57 (by decide) ?_
    refine V_iv4 58 dX6_clears_58 kvX6_59 rfl (by first | exact hM.1.1 | exact hM.1.2.1 | exact hM.1.2.2.1 | exact hM.1.2.2.2.1 | exact hM.1.2.2.2.2.1 | exact hM.1.2.2.2.2.2.1 | exact hM.1.2.2.2.2.2.2.1 | exact hM.1.2.2.2.2.2.2.2.1 | exact hM.1.2.2.2.2.2.2.2.2.1 | exact hM.1.2.2.2.2.2.2.2.2.2.1 | exact hM.1.2.2.2.2.2.2.2.2.2.2) rfl rfl (c_X6_set hM 0 i 3 (by unfold ctA; omega) (fun h hM => ?_))
    refine V_aload_n 61 dX6_clears_61 rfl ?_
    refine V_iconstv 62 (0) dX6_clears_62 (by decide) ?_
    refine V_iload_n 63 dX6_clears_63 rfl ?_
    refine V_iconstv 64 (4) dX6_clears_64 (by decide) ?_
    refine V_iconstv 65 (-1) dX6_clears_65 (by decide) ?_
    refine V_iv4 66 dX6_clears_66 kvX6_59 rfl (by first | exact hM.1.1 | exact hM.1.2.1 | exact hM.1.2.2.1 | exact hM.1.2.2.2.1 | exact hM.1.2.2.2.2.1 | exact hM.1.2.2.2.2.2.1 | exact hM.1.2.2.2.2.2.2.1 | exact hM.1.2.2.2.2.2.2.2.1 | exact hM.1.2.2.2.2.2.2.2.2.1 | exact hM.1.2.2.2.2.2.2.2.2.2.1 | exact hM.1.2.2.2.2.2.2.2.2.2.2) rfl rfl (c_X6_set hM 0 i 4 (by unfold ctA; omega) (fun h hM => ?_))
    refine V_iinc 69 (nI (i + 1)) dX6_clears_69 rfl (nI_inc i) rfl rfl ?_
    refine V_goto 72 24 dX6_clears_72 rfl ?_
    refine ih (i + 1) rfl (by omega) h ?_
    rw [← bgF_1 f (M.2.2.1 2) X (by omega)]
    have e := hM
    rw [mJ_mJ, mJ_mJ, mJ_mJ, mJ_mJ] at e
    exact e
set_option maxHeartbeats 1000000 in
set_option maxRecDepth 100000 in
theorem lp_X6_clears {f X : Nat → Int32} (n : Nat) (hn : n ≤ 6) (hn0 : M.1 0 = nI n) (k : ∀ h, WM G h0 h m (mJ M 3 (bgF f (M.2.2.1 2) X 0 0 n 0)) → Post none h sz) : ∀ i, i ≤ 168 → ∀ h, WM G h0 h m (mJ M 3 (zrF f i)) → V l G RX6 cX6_clears 2 none false 2 0 0 Post 2 [some (.ref m), some (.int (nI i))] [] h sz := by
  refine up_ind 168 (fun i hi ih h hM => ?_)
  refine V_iload_n 2 dX6_clears_2 rfl ?_
  refine V_sipushv 3 (168) dX6_clears_3 (by decide) ?_
  refine V_icmp_ge 6 22 dX6_clears_6 rfl (fun c_6 => ?_) (fun c_6 => ?_)
  · have e_6 : i = 168 := Nat.le_antisymm hi ((nI_leI (a := 168) (by decide) (by omega)).mp c_6)
    subst e_6
    refine V_iconstv 22 (0) dX6_clears_22 (by decide) ?_
    refine V_istore_n 23 dX6_clears_23 rfl rfl ?_
    refine lq_X6_clears (f := f) (X := X) n hn hn0 k 0 (Nat.zero_le _) h ?_
    rw [← zrF_e]
    exact hM
  · have e_6 : i < 168 := Nat.lt_of_not_le (fun q => c_6 (nI_le (a := 168) q (by omega)))
    refine V_aload_n 9 dX6_clears_9 rfl ?_
    refine V_get 10 dX6_clears_10 fdX6_16 (by first | exact hM.1.1 | exact hM.1.2.1 | exact hM.1.2.2.1 | exact hM.1.2.2.2.1 | exact hM.1.2.2.2.2.1 | exact hM.1.2.2.2.2.2.1 | exact hM.1.2.2.2.2.2.2.1 | exact hM.1.2.2.2.2.2.2.2.1 | exact hM.1.2.2.2.2.2.2.2.2.1 | exact hM.1.2.2.2.2.2.2.2.2.2.1 | exact hM.1.2.2.2.2.2.2.2.2.2.2) rfl ?_
    refine V_iload_n 13 dX6_clears_13 rfl ?_
    refine V_iconstv 14 (0) dX6_clears_14 (by decide) ?_
    refine V_ia3 15 i (nI_clamp (by omega)) dX6_clears_15 hM (vp_in_nI (by omega) (by decide)) (fun h hM => ?_)
    refine V_iinc 16 (nI (i + 1)) dX6_clears_16 rfl (nI_inc i) rfl rfl ?_
    refine V_goto 19 2 dX6_clears_19 rfl ?_
    refine ih (i + 1) rfl (by omega) h ?_
    rw [← zrF_s, ← mJ_mJ M (zrF f i)]
    exact hM
set_option maxHeartbeats 1000000 in
set_option maxRecDepth 100000 in
theorem c_X6_clears (hM : WM G h0 h m M) {X : Nat → Int32} (n : Nat) (hn : n ≤ 6) (hn0 : M.1 0 = nI n) (k : ∀ h, WM G h0 h m (mJ M 3 (bgF (M.2.2.1 3) (M.2.2.1 2) X 0 0 n 0)) → Post none h sz) : Cn l G yX6_clears cX6_clears 2 none 2 0 0 [.ref m] h sz Post := by
  refine Cn.of RX6 false (by decide) rfl (fun q => by cases q) (Nat.le_of_ble_eq_true rfl) ?_
  refine V_iconstv 0 (0) dX6_clears_0 (by decide) ?_
  refine V_istore_n 1 dX6_clears_1 rfl rfl ?_
  refine lp_X6_clears (f := M.2.2.1 3) (X := X) n hn hn0 k 0 (Nat.zero_le _) h ?_
  rw [zrF_0, mJ_self]
  exact hM
set_option maxHeartbeats 1000000 in
set_option maxRecDepth 100000 in
theorem lq_X6_begin {f S : Nat → Int32} {a d s v4 : Int32} (n : Nat) (hn : n ≤ 6) (hn0 : M.1 0 = nI n) (k : ∀ h, WM G h0 h m (mJ M 3 (bgF f S (sdx s) a d n n)) → Post (some (.int 1)) h sz) : ∀ i, i ≤ n → ∀ h, WM G h0 h m (mJ M 3 (bgF f S (sdx s) a d n i)) → V l G RX6 cX6_begin 6 (some .int) false 3 0 0 Post 138 [some (.ref m), some (.int a), some (.int d), some (.int s), some (.int v4), some (.int (nI i))] [] h sz := by
  refine up_ind n (fun i hi ih h hM => ?_)
  refine V_iload 138 dX6_begin_138 rfl ?_
  refine V_aload_n 140 dX6_begin_140 rfl ?_
  refine V_get 141 dX6_begin_141 fdX6_41 (by first | exact hM.1.1 | exact hM.1.2.1 | exact hM.1.2.2.1 | exact hM.1.2.2.2.1 | exact hM.1.2.2.2.2.1 | exact hM.1.2.2.2.2.2.1 | exact hM.1.2.2.2.2.2.2.1 | exact hM.1.2.2.2.2.2.2.2.1 | exact hM.1.2.2.2.2.2.2.2.2.1 | exact hM.1.2.2.2.2.2.2.2.2.2.1 | exact hM.1.2.2.2.2.2.2.2.2.2.2) rfl ?_
  refine V_topi (nI n) hn0 ?_
  refine V_icmp_ge 144 175 dX6_begin_144 rfl (fun c_144 => ?_) (fun c_144 => ?_)
  · have e_9 : i = n := Nat.le_antisymm hi ((nI_leI (by omega) (by omega)).mp c_144)
    subst e_9
    refine V_iconstv 175 (1) dX6_begin_175 (by decide) ?_
    refine V_iret 176 dX6_begin_176 ?_
    exact k h hM
  · have e_9 : i < n := Nat.lt_of_not_le (fun q => c_144 (nI_le q (by omega)))
    refine V_aload_n 147 dX6_begin_147 rfl ?_
    refine V_iconstv 148 (0) dX6_begin_148 (by decide) ?_
    refine V_iload 149 dX6_begin_149 rfl ?_
    refine V_bipushv 151 (8) dX6_begin_151 (by decide) ?_
    refine V_iload_n 153 dX6_begin_153 rfl ?_
    refine V_i2l 154 dX6_begin_154 ?_
    refine V_iload 155 dX6_begin_155 rfl ?_
    refine V_iconstv 157 (1) dX6_begin_157 (by decide) ?_
    refine V_iadd 158 dX6_begin_158 ?_
    refine V_topi (nI (i + 1)) (nI_1 i) ?_
    refine V_i2l 159 dX6_begin_159 ?_
    refine V_lmul 160 dX6_begin_160 ?_
    refine V_ldc2 161 dX6_begin_161 knX6_69 ?_
    refine V_lrem 164 dX6_begin_164 (by decide) ?_
    refine V_l2i 165 dX6_begin_165 ?_
    refine V_topi (sdx s i) rfl ?_
    refine V_iv4 166 dX6_begin_166 kvX6_59 rfl (by first | exact hM.1.1 | exact hM.1.2.1 | exact hM.1.2.2.1 | exact hM.1.2.2.2.1 | exact hM.1.2.2.2.2.1 | exact hM.1.2.2.2.2.2.1 | exact hM.1.2.2.2.2.2.2.1 | exact hM.1.2.2.2.2.2.2.2.1 | exact hM.1.2.2.2.2.2.2.2.2.1 | exact hM.1.2.2.2.2.2.2.2.2.2.1 | exact hM.1.2.2.2.2.2.2.2.2.2.2) rfl rfl (c_X6_set hM 0 i 8 (by unfold ctA; omega) (fun h hM => ?_))
    refine V_iinc 169 (nI (i + 1)) dX6_begin_169 rfl (nI_inc i) rfl rfl ?_
    refine V_goto 172 138 dX6_begin_172 rfl ?_
    refine ih (i + 1) rfl (by omega) h ?_
    rw [← bgF_8 f S (sdx s) a d e_9 hn, ← mJ_mJ M (bgF f S (sdx s) a d n i)]
    exact hM
set_option maxHeartbeats 1000000 in
set_option maxRecDepth 100000 in
theorem lt_X6_begin (hM : WM G h0 h m M) {a d s v4 v5 : Int32} (n : Nat) (hn : n ≤ 6) (hn0 : M.1 0 = nI n) (k : ∀ h, WM G h0 h m (mJ (mI M 4 0) 3 (bgF (M.2.2.1 3) (M.2.2.1 2) (sdx s) a d n n)) → Post (some (.int 1)) h sz) : V l G RX6 cX6_begin 6 (some .int) false 3 0 0 Post 112 [some (.ref m), some (.int a), some (.int d), some (.int s), some (.int v4), some (.int v5)] [] h sz := by
  refine V_aload_n 112 dX6_begin_112 rfl ?_
  refine V_iv0 113 dX6_begin_113 kvX6_202 rfl (by first | exact hM.1.1 | exact hM.1.2.1 | exact hM.1.2.2.1 | exact hM.1.2.2.2.1 | exact hM.1.2.2.2.2.1 | exact hM.1.2.2.2.2.2.1 | exact hM.1.2.2.2.2.2.2.1 | exact hM.1.2.2.2.2.2.2.2.1 | exact hM.1.2.2.2.2.2.2.2.2.1 | exact hM.1.2.2.2.2.2.2.2.2.2.1 | exact hM.1.2.2.2.2.2.2.2.2.2.2) rfl rfl (c_X6_clears hM (X := sdx s) n hn hn0 (fun h hM => ?_))
  refine V_aload_n 116 dX6_begin_116 rfl ?_
  refine V_iconstv 117 (0) dX6_begin_117 (by decide) ?_
  refine V_putM 118 dX6_begin_118 fpX6_153 hM rfl rfl (fun h hM => ?_)
  refine V_aload_n 121 dX6_begin_121 rfl ?_
  refine V_get 122 dX6_begin_122 fdX6_16 (by first | exact hM.1.1 | exact hM.1.2.1 | exact hM.1.2.2.1 | exact hM.1.2.2.2.1 | exact hM.1.2.2.2.2.1 | exact hM.1.2.2.2.2.2.1 | exact hM.1.2.2.2.2.2.2.1 | exact hM.1.2.2.2.2.2.2.2.1 | exact hM.1.2.2.2.2.2.2.2.2.1 | exact hM.1.2.2.2.2.2.2.2.2.2.1 | exact hM.1.2.2.2.2.2.2.2.2.2.2) rfl ?_
  refine V_iconstv 125 (0) dX6_begin_125 (by decide) ?_
  refine V_iload_n 126 dX6_begin_126 rfl ?_
  refine V_ia3 127 0 rfl dX6_begin_127 hM (vp_in_nI (n := 0) (by omega) (by decide)) (fun h hM => ?_)
  refine V_aload_n 128 dX6_begin_128 rfl ?_
  refine V_get 129 dX6_begin_129 fdX6_16 (by first | exact hM.1.1 | exact hM.1.2.1 | exact hM.1.2.2.1 | exact hM.1.2.2.2.1 | exact hM.1.2.2.2.2.1 | exact hM.1.2.2.2.2.2.1 | exact hM.1.2.2.2.2.2.2.1 | exact hM.1.2.2.2.2.2.2.2.1 | exact hM.1.2.2.2.2.2.2.2.2.1 | exact hM.1.2.2.2.2.2.2.2.2.2.1 | exact hM.1.2.2.2.2.2.2.2.2.2.2) rfl ?_
  refine V_iconstv 132 (1) dX6_begin_132 (by decide) ?_
  refine V_iload_n 133 dX6_begin_133 rfl ?_
  refine V_ia3 134 1 rfl dX6_begin_134 hM (vp_in_nI (n := 1) (by omega) (by decide)) (fun h hM => ?_)
  refine V_iconstv 135 (0) dX6_begin_135 (by decide) ?_
  refine V_istore 136 dX6_begin_136 rfl rfl ?_
  refine lq_X6_begin (M := mI M 4 0) (f := M.2.2.1 3) (S := M.2.2.1 2) n hn hn0 k 0 (Nat.zero_le _) h ?_
  rw [← bgF_a]
  have e := hM
  rw [mJ_mJ] at e
  exact e
set_option maxHeartbeats 1000000 in
set_option maxRecDepth 100000 in
theorem lp_X6_begin (hM : WM G h0 h m M) {a d s : Int32} (n : Nat) (hn : n ≤ 6) (hn0 : M.1 0 = nI n) (k : ∀ b : Bool, (b = true ↔ (0 < n ∧ ∀ j, j < n → (M.2.2.1 2 j = M.2.2.1 2 0 ∨ a < 3))) → V l G RX6 cX6_begin 6 (some .int) false 3 0 0 Post 104 [some (.ref m), some (.int a), some (.int d), some (.int s), some (.int (b2i b)), some (.int (nI n))] [] h sz) : ∀ i, i ≤ n → ∀ b : Bool, (b = true ↔ (0 < n ∧ ∀ j, j < i → (M.2.2.1 2 j = M.2.2.1 2 0 ∨ a < 3))) → V l G RX6 cX6_begin 6 (some .int) false 3 0 0 Post 56 [some (.ref m), some (.int a), some (.int d), some (.int s), some (.int (b2i b)), some (.int (nI i))] [] h sz := by
  refine up_ind n (fun i hi ih b hb => ?_)
  refine V_iload 56 dX6_begin_56 rfl ?_
  refine V_aload_n 58 dX6_begin_58 rfl ?_
  refine V_get 59 dX6_begin_59 fdX6_41 (by first | exact hM.1.1 | exact hM.1.2.1 | exact hM.1.2.2.1 | exact hM.1.2.2.2.1 | exact hM.1.2.2.2.2.1 | exact hM.1.2.2.2.2.2.1 | exact hM.1.2.2.2.2.2.2.1 | exact hM.1.2.2.2.2.2.2.2.1 | exact hM.1.2.2.2.2.2.2.2.2.1 | exact hM.1.2.2.2.2.2.2.2.2.2.1 | exact hM.1.2.2.2.2.2.2.2.2.2.2) rfl ?_
  refine V_topi (nI n) hn0 ?_
  refine V_icmp_ge 62 104 dX6_begin_62 rfl (fun c_62 => ?_) (fun c_62 => ?_)
  · have e_9 : i = n := Nat.le_antisymm hi ((nI_leI (by omega) (by omega)).mp c_62)
    subst e_9
    exact k b hb
  · have e_9 : i < n := Nat.lt_of_not_le (fun q => c_62 (nI_le q (by omega)))
    refine V_iload 65 dX6_begin_65 rfl ?_
    refine V_if_eq 67 95 dX6_begin_67 rfl (fun c_67 => ?_) (fun c_67 => ?_)
    · have nb : ¬ (0 < n ∧ ∀ j, j < (i + 1) → (M.2.2.1 2 j = M.2.2.1 2 0 ∨ a < 3)) := fun q => absurd (hb.mpr ⟨q.1, fun j hj => q.2 j (by omega)⟩) (by rw [b2i_0 c_67]; decide)
      refine V_iconstv 95 (0) dX6_begin_95 (by decide) ?_
      refine V_istore 96 dX6_begin_96 rfl rfl ?_
      refine V_iinc 98 (nI (i + 1)) dX6_begin_98 rfl (nI_inc i) rfl rfl ?_
      refine V_goto 101 56 dX6_begin_101 rfl ?_
      first
      | exact ih (i + 1) rfl (by omega) true (iff_of_true rfl yb1)
      | exact ih (i + 1) rfl (by omega) false (iff_of_false (by decide) nb)
    · have yb := hb.mp (b2i_n0 c_67)
      refine V_aload_n 70 dX6_begin_70 rfl ?_
      refine V_get 71 dX6_begin_71 fdX6_13 (by first | exact hM.1.1 | exact hM.1.2.1 | exact hM.1.2.2.1 | exact hM.1.2.2.2.1 | exact hM.1.2.2.2.2.1 | exact hM.1.2.2.2.2.2.1 | exact hM.1.2.2.2.2.2.2.1 | exact hM.1.2.2.2.2.2.2.2.1 | exact hM.1.2.2.2.2.2.2.2.2.1 | exact hM.1.2.2.2.2.2.2.2.2.2.1 | exact hM.1.2.2.2.2.2.2.2.2.2.2) rfl ?_
      refine V_iload 74 dX6_begin_74 rfl ?_
      refine V_ialdk 76 i (nI_clamp (by omega)) dX6_begin_76 (by first | exact hM.1.1 | exact hM.1.2.1 | exact hM.1.2.2.1 | exact hM.1.2.2.2.1 | exact hM.1.2.2.2.2.1 | exact hM.1.2.2.2.2.2.1 | exact hM.1.2.2.2.2.2.2.1 | exact hM.1.2.2.2.2.2.2.2.1 | exact hM.1.2.2.2.2.2.2.2.2.1 | exact hM.1.2.2.2.2.2.2.2.2.2.1 | exact hM.1.2.2.2.2.2.2.2.2.2.2) (vp_in_nI (by omega) (by decide)) ?_
      refine V_aload_n 77 dX6_begin_77 rfl ?_
      refine V_get 78 dX6_begin_78 fdX6_13 (by first | exact hM.1.1 | exact hM.1.2.1 | exact hM.1.2.2.1 | exact hM.1.2.2.2.1 | exact hM.1.2.2.2.2.1 | exact hM.1.2.2.2.2.2.1 | exact hM.1.2.2.2.2.2.2.1 | exact hM.1.2.2.2.2.2.2.2.1 | exact hM.1.2.2.2.2.2.2.2.2.1 | exact hM.1.2.2.2.2.2.2.2.2.2.1 | exact hM.1.2.2.2.2.2.2.2.2.2.2) rfl ?_
      refine V_iconstv 81 (0) dX6_begin_81 (by decide) ?_
      refine V_ialdk 82 0 rfl dX6_begin_82 (by first | exact hM.1.1 | exact hM.1.2.1 | exact hM.1.2.2.1 | exact hM.1.2.2.2.1 | exact hM.1.2.2.2.2.1 | exact hM.1.2.2.2.2.2.1 | exact hM.1.2.2.2.2.2.2.1 | exact hM.1.2.2.2.2.2.2.2.1 | exact hM.1.2.2.2.2.2.2.2.2.1 | exact hM.1.2.2.2.2.2.2.2.2.2.1 | exact hM.1.2.2.2.2.2.2.2.2.2.2) (inb_in (by decide)) ?_
      refine V_icmp_eq 83 91 dX6_begin_83 rfl (fun c_83 => ?_) (fun c_83 => ?_)
      · have yb1 : (0 < n ∧ ∀ j, j < (i + 1) → (M.2.2.1 2 j = M.2.2.1 2 0 ∨ a < 3)) := ⟨yb.1, fun j hj => if q : j = i then q ▸ Or.inl c_83 else yb.2 j (by omega)⟩
        refine V_iconstv 91 (1) dX6_begin_91 (by decide) ?_
        refine V_goto 92 96 dX6_begin_92 rfl ?_
        refine V_istore 96 dX6_begin_96 rfl rfl ?_
        refine V_iinc 98 (nI (i + 1)) dX6_begin_98 rfl (nI_inc i) rfl rfl ?_
        refine V_goto 101 56 dX6_begin_101 rfl ?_
        first
        | exact ih (i + 1) rfl (by omega) true (iff_of_true rfl yb1)
        | exact ih (i + 1) rfl (by omega) false (iff_of_false (by decide) nb)
      · refine V_iload_n 86 dX6_begin_86 rfl ?_
        refine V_iconstv 87 (3) dX6_begin_87 (by decide) ?_
        refine V_icmp_ge 88 95 dX6_begin_88 rfl (fun c_88 => ?_) (fun c_88 => ?_)
        · have nb : ¬ (0 < n ∧ ∀ j, j < (i + 1) → (M.2.2.1 2 j = M.2.2.1 2 0 ∨ a < 3)) := fun q => (q.2 i (by omega)).elim c_83 (fun z => Int32.not_le.mpr z c_88)
          refine V_iconstv 95 (0) dX6_begin_95 (by decide) ?_
          refine V_istore 96 dX6_begin_96 rfl rfl ?_
          refine V_iinc 98 (nI (i + 1)) dX6_begin_98 rfl (nI_inc i) rfl rfl ?_
          refine V_goto 101 56 dX6_begin_101 rfl ?_
          first
          | exact ih (i + 1) rfl (by omega) true (iff_of_true rfl yb1)
          | exact ih (i + 1) rfl (by omega) false (iff_of_false (by decide) nb)
        · have yb1 : (0 < n ∧ ∀ j, j < (i + 1) → (M.2.2.1 2 j = M.2.2.1 2 0 ∨ a < 3)) := ⟨yb.1, fun j hj => if q : j = i then q ▸ Or.inr (Int32.not_le.mp c_88) else yb.2 j (by omega)⟩
          refine V_iconstv 91 (1) dX6_begin_91 (by decide) ?_
          refine V_goto 92 96 dX6_begin_92 rfl ?_
          refine V_istore 96 dX6_begin_96 rfl rfl ?_
          refine V_iinc 98 (nI (i + 1)) dX6_begin_98 rfl (nI_inc i) rfl rfl ?_
          refine V_goto 101 56 dX6_begin_101 rfl ?_
          first
          | exact ih (i + 1) rfl (by omega) true (iff_of_true rfl yb1)
          | exact ih (i + 1) rfl (by omega) false (iff_of_false (by decide) nb)
theorem bg_ok {B nx hs : Nat} {X : TX} {Q : RG} {E : ET} {K : Nat → ET} {M : MT} (hR : REL B X Q E nx hs K M) {a : Int32} (h4 : 1 ≤ a ∧ a ≤ 4) : (0 < Q.1 ∧ ∀ j, j < Q.1 → (M.2.2.1 2 j = M.2.2.1 2 0 ∨ a < 3)) ↔ bgOK Q a := by
  have s : ∀ j, j < Q.1 → M.2.2.1 2 j = Q.2.2 j := fun j hj => (hR.2.1.2.2.2 j hj).2.1
  obtain ⟨t, t1, rfl⟩ := nI_of2 (x := a) (M := 4) (n := 4) rfl (Int32.not_lt.mpr (Int32.le_trans (by decide) h4.1)) h4.2
  have t0 : 1 ≤ t := (nI_leI (a := 1) (by decide) (by omega)).mp h4.1
  constructor
  · rintro ⟨h0, h⟩
    refine ⟨by omega, fun q i h1 h2 => ?_⟩
    rcases h i h2 with z | z
    · rw [← s i h2, ← s 0 h0]
      exact z
    · rcases q with q | q <;> rw [q] at z <;> exact absurd z (by decide)
  · rintro ⟨h0, h⟩
    refine ⟨by omega, fun j hj => ?_⟩
    by_cases z : j = 0
    · rw [z]
      exact Or.inl rfl
    · by_cases q : t < 3
      · exact Or.inr (nI_lt (b := 3) q (by decide))
      · refine Or.inl ?_
        rw [s j hj, s 0 (by omega)]
        refine h ?_ j (by omega) hj
        rcases (show t = 3 ∨ t = 4 by omega) with w | w <;> rw [w]
        · exact Or.inl rfl
        · exact Or.inr rfl
theorem REL.bgn {B nx hs : Nat} {X : TX} {Q : RG} {E : ET} {K : Nat → ET} {M : MT} (hR : REL B X Q E nx hs K M) {a b c : Int32} (ok : bgOK Q a) (ha : 1 ≤ a ∧ a ≤ 4) (hb : 1 ≤ b ∧ b ≤ 9) (hc : 1 ≤ c ∧ c ≤ 999999) : REL B X Q (startE Q E a b c) nx 0 K (mJ (mI M 4 0) 3 (bgF (M.2.2.1 3) (M.2.2.1 2) (sdx c) a b Q.1 Q.1)) := by
  obtain ⟨t, r, x1, x2, x3, x4, x5, x6⟩ := hR
  obtain ⟨a', a1, rfl⟩ := nI_of2 (x := a) (M := 4) (n := 4) rfl (Int32.not_lt.mpr (Int32.le_trans (by decide) ha.1)) ha.2
  have a0 : 1 ≤ a' := (nI_leI (a := 1) (by decide) (by omega)).mp ha.1
  obtain ⟨b', b1, rfl⟩ := nI_of2 (x := b) (M := 9) (n := 9) rfl (Int32.not_lt.mpr (Int32.le_trans (by decide) hb.1)) hb.2
  have b0 : 1 ≤ b' := (nI_leI (a := 1) (by decide) (by omega)).mp hb.1
  obtain ⟨c', c1, rfl⟩ := nI_of2 (x := c) (M := 999999) (n := 999999) rfl (Int32.not_lt.mpr (Int32.le_trans (by decide) hc.1)) hc.2
  refine ⟨t, r, RowE.bg r.2.1 (fun j hj => (r.2.2.2 j hj).2.1) (fun _ => ⟨rfl, fun _ _ => rfl⟩) rfl, rfl, by omega, x4, fun a ha => absurd ha (Nat.not_lt_zero a), Or.inr ⟨Inv.start ⟨r.2.2.1.resolve_left ok.1, r.2.1⟩ (fun i hi => (r.2.2.2 i hi).2.2) E ⟨a0, a1⟩ ⟨b0, b1⟩ c1 B, fun a ha => absurd ha (Nat.not_lt_zero a)⟩⟩
set_option maxHeartbeats 1000000 in
set_option maxRecDepth 100000 in
theorem c_X6_begin (hM : WM G h0 h m M) (hR : REL B X Q E nx hs K M) {a b c : Int32} (k0 : ¬ ((1 ≤ a ∧ a ≤ 4) ∧ (1 ≤ b ∧ b ≤ 9) ∧ (1 ≤ c ∧ c ≤ 999999)) → Post (some (.int (-1000002))) h sz) (k2 : ((1 ≤ a ∧ a ≤ 4) ∧ (1 ≤ b ∧ b ≤ 9) ∧ (1 ≤ c ∧ c ≤ 999999)) → ¬ bgOK Q a → Post (some (.int (-1000003))) h sz) (k1 : ((1 ≤ a ∧ a ≤ 4) ∧ (1 ≤ b ∧ b ≤ 9) ∧ (1 ≤ c ∧ c ≤ 999999)) → bgOK Q a → ∀ h1 M1, WM G h0 h1 m M1 → REL B X Q (startE Q E a b c) nx 0 K M1 → Post (some (.int (1))) h1 sz) : Cn l G yX6_begin cX6_begin 6 (some .int) 3 0 0 [.ref m, .int a, .int b, .int c] h sz Post := by
  refine Cn.of RX6 false (by decide) rfl (fun q => by cases q) (Nat.le_of_ble_eq_true rfl) ?_
  have hn := hR.2.1.2.1
  refine V_iload_n 0 dX6_begin_0 rfl ?_
  refine V_i2l 1 dX6_begin_1 ?_
  refine V_lconstv 2 1 dX6_begin_2 (by decide) ?_
  refine V_ldc2 3 dX6_begin_3 knX6_205 ?_
  refine V_is3 6 dX6_begin_6 ksX6_45 rfl rfl (c_X6_inI (lo := 1) (hi := 4) rfl rfl (fun c_6 => ?_) (fun c_6 => ?_))
  · refine V_if_eq 9 36 dX6_begin_9 rfl (fun q => absurd q (by decide)) (fun _ => ?_)
    refine V_iload_n 12 dX6_begin_12 rfl ?_
    refine V_i2l 13 dX6_begin_13 ?_
    refine V_lconstv 14 1 dX6_begin_14 (by decide) ?_
    refine V_ldc2 15 dX6_begin_15 knX6_207 ?_
    refine V_is3 18 dX6_begin_18 ksX6_45 rfl rfl (c_X6_inI (lo := 1) (hi := 9) rfl rfl (fun c_18 => ?_) (fun c_18 => ?_))
    · refine V_if_eq 21 36 dX6_begin_21 rfl (fun q => absurd q (by decide)) (fun _ => ?_)
      refine V_iload_n 24 dX6_begin_24 rfl ?_
      refine V_i2l 25 dX6_begin_25 ?_
      refine V_lconstv 26 1 dX6_begin_26 (by decide) ?_
      refine V_ldc2 27 dX6_begin_27 knX6_209 ?_
      refine V_is3 30 dX6_begin_30 ksX6_45 rfl rfl (c_X6_inI (lo := 1) (hi := 999999) rfl rfl (fun c_30 => ?_) (fun c_30 => ?_))
      · refine V_if_ne 33 39 dX6_begin_33 rfl (fun _ => ?_) (fun q => absurd q (by decide))
        have KK : ∀ b' : Bool, (b' = true ↔ (0 < Q.1 ∧ ∀ j, j < Q.1 → (M.2.2.1 2 j = M.2.2.1 2 0 ∨ a < 3))) → V l G RX6 cX6_begin 6 (some .int) false 3 0 0 Post 104 [some (.ref m), some (.int a), some (.int b), some (.int c), some (.int (b2i b')), some (.int (nI Q.1))] [] h sz := by
          intro bb hb
          refine V_iload 104 dX6_begin_104 rfl ?_
          refine V_if_ne 106 112 dX6_begin_106 rfl (fun c_106 => ?_) (fun c_106 => ?_)
          · have ok := (bg_ok hR c_6).mp (hb.mp (b2i_n0 c_106))
            exact lt_X6_begin hM Q.1 hn hR.2.1.1 (fun h hM => k1 ⟨c_6, c_18, c_30⟩ ok h _ hM (hR.bgn ok c_6 c_18 c_30))
          · refine V_ldc 109 dX6_begin_109 knX6_211 ?_
            refine V_iret 111 dX6_begin_111 ?_
            exact k2 ⟨c_6, c_18, c_30⟩ (fun q => absurd (hb.mpr ((bg_ok hR c_6).mpr q)) (by rw [b2i_0 c_106]; decide))
        refine V_aload_n 39 dX6_begin_39 rfl ?_
        refine V_get 40 dX6_begin_40 fdX6_41 (by first | exact hM.1.1 | exact hM.1.2.1 | exact hM.1.2.2.1 | exact hM.1.2.2.2.1 | exact hM.1.2.2.2.2.1 | exact hM.1.2.2.2.2.2.1 | exact hM.1.2.2.2.2.2.2.1 | exact hM.1.2.2.2.2.2.2.2.1 | exact hM.1.2.2.2.2.2.2.2.2.1 | exact hM.1.2.2.2.2.2.2.2.2.2.1 | exact hM.1.2.2.2.2.2.2.2.2.2.2) rfl ?_
        refine V_topi (nI Q.1) hR.2.1.1 ?_
        refine V_if_le 43 50 dX6_begin_43 rfl (fun c_43 => ?_) (fun c_43 => ?_)
        · have z0 : ¬ 0 < Q.1 := fun q => nI_nle q (by omega) c_43
          refine V_iconstv 50 (0) dX6_begin_50 (by decide) ?_
          refine V_istore 51 dX6_begin_51 rfl rfl ?_
          refine V_iconstv 53 (0) dX6_begin_53 (by decide) ?_
          refine V_istore 54 dX6_begin_54 rfl rfl ?_
          first
          | refine lp_X6_begin hM (a := a) (d := b) (s := c) Q.1 hn hR.2.1.1 ?_ 0 (Nat.zero_le _) true (iff_of_true rfl ⟨z0, fun j hj => absurd hj (Nat.not_lt_zero j)⟩)
          | refine lp_X6_begin hM (a := a) (d := b) (s := c) Q.1 hn hR.2.1.1 ?_ 0 (Nat.zero_le _) false (iff_of_false (by decide) (fun q => z0 q.1))
          exact KK
        · have z0 : 0 < Q.1 := Nat.pos_of_ne_zero (fun q => c_43 (by rw [q]; decide))
          refine V_iconstv 46 (1) dX6_begin_46 (by decide) ?_
          refine V_goto 47 51 dX6_begin_47 rfl ?_
          refine V_istore 51 dX6_begin_51 rfl rfl ?_
          refine V_iconstv 53 (0) dX6_begin_53 (by decide) ?_
          refine V_istore 54 dX6_begin_54 rfl rfl ?_
          first
          | refine lp_X6_begin hM (a := a) (d := b) (s := c) Q.1 hn hR.2.1.1 ?_ 0 (Nat.zero_le _) true (iff_of_true rfl ⟨z0, fun j hj => absurd hj (Nat.not_lt_zero j)⟩)
          | refine lp_X6_begin hM (a := a) (d := b) (s := c) Q.1 hn hR.2.1.1 ?_ 0 (Nat.zero_le _) false (iff_of_false (by decide) (fun q => z0 q.1))
          exact KK
      · refine V_if_ne 33 39 dX6_begin_33 rfl (fun q => absurd q (by decide)) (fun _ => ?_)
        refine V_ldc 36 dX6_begin_36 knX6_161 ?_
        refine V_iret 38 dX6_begin_38 ?_
        first | exact k0 (fun q => c_6 q.1) | exact k0 (fun q => c_18 q.2.1) | exact k0 (fun q => c_30 q.2.2)
    · refine V_if_eq 21 36 dX6_begin_21 rfl (fun _ => ?_) (fun q => absurd q (by decide))
      refine V_ldc 36 dX6_begin_36 knX6_161 ?_
      refine V_iret 38 dX6_begin_38 ?_
      first | exact k0 (fun q => c_6 q.1) | exact k0 (fun q => c_18 q.2.1) | exact k0 (fun q => c_30 q.2.2)
  · refine V_if_eq 9 36 dX6_begin_9 rfl (fun _ => ?_) (fun q => absurd q (by decide))
    refine V_ldc 36 dX6_begin_36 knX6_161 ?_
    refine V_iret 38 dX6_begin_38 ?_
    first | exact k0 (fun q => c_6 q.1) | exact k0 (fun q => c_18 q.2.1) | exact k0 (fun q => c_30 q.2.2)
end M39
