theorem ct_ex {p : Nat → Bool} : ∀ {N t : Nat}, t < ctN p N → ∃ i, i < N ∧ p i = true ∧ ctN p i = t
  | 0, t, h => absurd h (Nat.not_lt_zero t)
  | N + 1, t, h => by
    by_cases hp : p N = true
    · rw [ctN_t hp] at h
      by_cases e : t = ctN p N
      · exact ⟨N, by omega, hp, e.symm⟩
      · obtain ⟨i, a, b, c⟩ := ct_ex (p := p) (N := N) (t := t) (by omega)
        exact ⟨i, by omega, b, c⟩
    · rw [ctN_f hp] at h
      obtain ⟨i, a, b, c⟩ := ct_ex (p := p) (N := N) (t := t) h
      exact ⟨i, by omega, b, c⟩
theorem la_is {p : Nat → Bool} : ∀ {n : Nat}, (∃ i, i < n ∧ p i = true) → ∃ i, i < n ∧ p i = true ∧ laN p n = nI i
  | 0, ⟨i, h, _⟩ => absurd h (Nat.not_lt_zero i)
  | n + 1, ⟨i, h, hp⟩ => by
    by_cases hn : p n = true
    · exact ⟨n, by omega, hn, by rw [laN, if_pos hn]⟩
    · obtain ⟨j, a, b, c⟩ := la_is (p := p) (n := n) ⟨i, Nat.lt_of_le_of_ne (by omega) (fun q => hn (q ▸ hp)), hp⟩
      exact ⟨j, by omega, b, by rw [laN, if_neg hn]; exact c⟩
theorem ch_bsy {E : ET} {n : Nat} (hn : n ≤ 6) (hx : ∃ i, i < 2 * n ∧ bsy E (nI i) = true) (ord : Int32) (j : Nat) {a : Nat} (ha : a < 2 ^ 31) : ∃ t, t < 2 * n ∧ chE E n ord j (nI a) = nI t ∧ bsy E (nI t) = true := by
  have h0 : ∃ t, t < 2 * n ∧ lbE E n 0 = nI t ∧ bsy E (nI t) = true := by
    have hne : ¬ lbE E n 0 = -1 := fun q => (hx.elim (fun i hi => lb_no hn q i (Nat.zero_le _) hi.1 hi.2))
    obtain ⟨t, e1, e2, e3, -⟩ := lb_lt hne
    exact ⟨t, e2, e1, e3⟩
  unfold chE
  by_cases c0 : ord = 0
  · rw [if_pos c0]; exact h0
  · rw [if_neg c0]
    by_cases c1 : ord = 1
    · rw [if_pos c1]
      obtain ⟨i, a, b, c⟩ := la_is (p := fun i => bsy E (nI i)) hx
      exact ⟨i, a, c, b⟩
    · rw [if_neg c1]
      by_cases c2 : ord = 2
      · rw [if_pos c2]
        by_cases c : lbE E n j = -1
        · rw [if_pos c]; exact h0
        · rw [if_neg c]
          obtain ⟨t, e1, e2, e3, -⟩ := lb_lt c
          exact ⟨t, e2, e1, e3⟩
      · rw [if_neg c2]
        have b0 := blE_pos hx
        have b1 := blE_le E n
        have e : bnT E n (nI a) = nI (a % blE E n) := by
          unfold bnT
          rw [if_neg (nI_nle b0 (by omega)), pk_rem (by omega) (by omega) (by omega)]
        obtain ⟨i, i1, i2, i3⟩ := ct_ex (p := bzB E) (N := 2 * n) (t := a % blE E n) (Nat.mod_lt _ b0)
        have hlt : fiN (bnB E (bnT E n (nI a))) (2 * n) < 2 * n := by
          by_cases h : fiN (bnB E (bnT E n (nI a))) (2 * n) < 2 * n
          · exact h
          · refine absurd (Bool.and_eq_true_iff.mpr ⟨i2, decide_eq_true ?_⟩) (fiN_ge h i i1)
            show nI (ctN (bzB E) i) = _
            rw [i3, e]
        unfold bnE
        rw [if_pos hlt]
        exact ⟨_, hlt, rfl, (Bool.and_eq_true_iff.mp (fiN_lt hlt).1).1⟩
/-- what keeps itself over deliveries -/
def JC (Q : RG) (J : Nat → ET → Prop) : Prop := ∀ b E, b < 2 ^ 29 → J b E → (0 < eN E → ∃ j, j < 2 * Q.1 ∧ bsy E (nI j) = true) ∧ ∀ j, j < 2 * Q.1 → bsy E (nI j) = true → DelOK Q E j ∧ J (b + 1) (dlE Q E (nI j))
theorem nxL_nI {t : Nat} (ht : t < 1000) : nxL (nI t) = t + 1 := by
  unfold nxL
  rw [nI_1, nI_clamp (by omega)]
theorem dm_J {Q : RG} {J : Nat → ET → Prop} (hJ : JC Q J) (hn : Q.1 ≤ 6) (x : Int32) : ∀ (c b j a : Nat) (E : ET), b + c < 2 ^ 29 → a < 2 ^ 31 → J b E → ∃ b1, b1 ≤ b + c ∧ J b1 (dmE Q x c j (nI a) E).2 ∧ (dmE Q x c j (nI a) E).1 ≤ c
  | 0, b, j, a, E, _, _, h => ⟨b, by omega, h, Nat.le_refl _⟩
  | c + 1, b, j, a, E, hb, ha, h => by
    rw [dmE]
    by_cases e : eN E = 0
    · rw [if_pos e]
      exact ⟨b, by omega, h, Nat.zero_le _⟩
    · rw [if_neg e]
      obtain ⟨h1, h2⟩ := hJ b E (by omega) h
      rw [fo_nI2 ha]
      obtain ⟨t, t1, t2, t3⟩ := ch_bsy hn (h1 (by omega)) x j (a := a * 16807 % 2147483647) (by omega)
      rw [t2]
      obtain ⟨b1, q1, q2, q3⟩ := dm_J hJ hn x c (b + 1) (nxL (nI t)) (a * 16807 % 2147483647) (dlE Q E (nI t)) (by omega) (by omega) (h2 t t1 t3).2
      exact ⟨b1, by omega, q2, by show _ + 1 ≤ _; omega⟩
section M33
variable {l : Launch} {G : zGT} {h h0 : hpT} {sz : Nat} {Post : Option Value → hpT → Nat → Prop} {m r : Nat} {M M0 : MT} {Q : RG} {E : ET}
set_option maxHeartbeats 1000000 in
set_option maxRecDepth 100000 in
theorem c_X6_nextLink1 (hX : WX G h0 h m M0 M r E Q) {x b : Int32} (hord : x = 0 ∨ x = 1 ∨ x = 2 ∨ x = 3) (hx : ∃ i, i < 2 * Q.1 ∧ bsy E (nI i) = true) (j : Nat) (hj : b + 1 = nI j) (hj2 : j ≤ 2 * Q.1) (a : Nat) (ha : a < 2 ^ 31) (hy : x = 3 → M.2.1 = lN a) (k : ∀ h y', WX G h0 h m (mY M0 y') (mY M y') r E Q → (x = 3 → y' = lN (a * 16807 % 2147483647)) → Post (some (.int (chE E Q.1 x j (nI (a * 16807 % 2147483647))))) h sz) : Cn l G yX6_nextLink cX6_nextLink 6 (some .int) 3 0 0 [.ref m, .int (nI r), .int x, .int b] h sz Post := by
  refine c_X6_nextLink hX (y := nI (a * 16807 % 2147483647)) hord hx j hj hj2 a ha hy (fun c => ?_) (fun c h hX => ?_)
  · have e : M0.2.1 = M.2.1 := hX.2.1.2.1.symm
    have e2 : mY M0 M.2.1 = M0 := by rw [← e]; rfl
    exact k h M.2.1 (by rw [e2]; exact hX) (fun q => absurd q c)
  · have e : chE E Q.1 x j (nI (a * 16807 % 2147483647)) = bnE E Q.1 (nI (a * 16807 % 2147483647)) := by
      unfold chE
      rw [c, if_neg (by decide), if_neg (by decide), if_neg (by decide)]
    rw [← e] 
    exact k h _ hX (fun _ => rfl)
set_option maxHeartbeats 1000000 in
set_option maxRecDepth 100000 in
theorem lp_X6_runs {J : Nat → ET → Prop} (hJ : JC Q J) {x s : Int32} (hord : x = 0 ∨ x = 1 ∨ x = 2 ∨ x = 3) : ∀ (c i b j a : Nat) (v7 : Option Value) (bl : Int32) (E : ET) (M0 M : MT) (h : hpT), c + i ≤ 300 → b + c < 2 ^ 29 → WX G h0 h m M0 M r E Q → J b E → bl + 1 = nI j → j ≤ 2 * Q.1 → a < 2 ^ 31 → (x = 3 → M.2.1 = lN a) → (v7 = none ∨ ∃ q : Int32, v7 = some (.int q)) → (∀ h M1 y', WX G h0 h m (mY M0 y') M1 r (dmE Q x c j (nI a) E).2 Q → Post (some (.int (nI (i + (dmE Q x c j (nI a) E).1)))) h sz) → V l G RX6 cX6_runs 8 (some .int) false 7 0 0 Post 12 [some (.ref m), some (.int (nI r)), some (.int x), some (.int s), some (.int (nI (c + i))), some (.int (nI i)), some (.int bl), v7] [] h sz := by
  intro c
  induction c with
  | zero =>
    intro i b j a v7 bl E M0 M h hci hbc hX hb hj hj2 ha hy hv7 k
    refine V_iload 12 dX6_runs_12 rfl ?_
    refine V_iload 14 dX6_runs_14 rfl ?_
    refine V_icmp_ge 16 71 dX6_runs_16 rfl (fun _ => ?_) (fun q => absurd (nI_le (by omega) (by omega)) q)
    refine V_iload 71 dX6_runs_71 rfl ?_
    refine V_iret 73 dX6_runs_73 ?_
    have e2 : mY M0 M0.2.1 = M0 := rfl
    rw [← e2] at hX
    exact k h M M0.2.1 hX
  | succ c ih =>
    intro i b j a v7 bl E M0 M h hci hbc hX hb hj hj2 ha hy hv7 k
    have hn := hX.2.2.2.2.2.2
    have hr := hX.2.2.2.2.2.1
    have hN := hX.2.2.2.2.1.2.2.2.2.2.2
    refine V_iload 12 dX6_runs_12 rfl ?_
    refine V_iload 14 dX6_runs_14 rfl ?_
    refine V_icmp_ge 16 71 dX6_runs_16 rfl (fun q => absurd q (nI_ge (by omega) (by omega))) (fun _ => ?_)
    refine V_aload_n 19 dX6_runs_19 rfl ?_
    refine V_get 20 dX6_runs_20 fdX6_16 (by first | exact hX.1.1.1 | exact hX.1.1.2.1 | exact hX.1.1.2.2.1 | exact hX.1.1.2.2.2.1 | exact hX.1.1.2.2.2.2.1 | exact hX.1.1.2.2.2.2.2.1 | exact hX.1.1.2.2.2.2.2.2.1 | exact hX.1.1.2.2.2.2.2.2.2.1 | exact hX.1.1.2.2.2.2.2.2.2.2.1 | exact hX.1.1.2.2.2.2.2.2.2.2.2.1 | exact hX.1.1.2.2.2.2.2.2.2.2.2.2) rfl ?_
    refine V_sipushv 23 (168) dX6_runs_23 (by decide) ?_
    refine V_iload_n 26 dX6_runs_26 rfl ?_
    refine V_imul 27 dX6_runs_27 ?_
    refine V_topi (nI (168 * r)) (pk_mul 168 r) ?_
    refine V_iconstv 28 (2) dX6_runs_28 (by decide) ?_
    refine V_iadd 29 dX6_runs_29 ?_
    refine V_topi (nI (168 * r + 2)) (nI_add _ 2) ?_
    refine V_ialdk 30 (168 * r + 2) (nI_clamp (by omega)) dX6_runs_30 (by first | exact hX.1.1.1 | exact hX.1.1.2.1 | exact hX.1.1.2.2.1 | exact hX.1.1.2.2.2.1 | exact hX.1.1.2.2.2.2.1 | exact hX.1.1.2.2.2.2.2.1 | exact hX.1.1.2.2.2.2.2.2.1 | exact hX.1.1.2.2.2.2.2.2.2.1 | exact hX.1.1.2.2.2.2.2.2.2.2.1 | exact hX.1.1.2.2.2.2.2.2.2.2.2.1 | exact hX.1.1.2.2.2.2.2.2.2.2.2.2) (vp_in_nI (by omega) (by decide)) ?_
    refine V_topi (nI (eN E)) hX.2.2.2.2.1.2.2.1 ?_
    refine V_if_le 31 71 dX6_runs_31 rfl (fun c_31 => ?_) (fun c_31 => ?_)
    · have e0 : eN E = 0 := Nat.eq_zero_of_not_pos (fun q => nI_nle q (by omega) c_31)
      rw [dmE, if_pos e0] at k
      have e2 : mY M0 M0.2.1 = M0 := rfl
      refine V_iload 71 dX6_runs_71 rfl ?_
      refine V_iret 73 dX6_runs_73 ?_
      rw [← e2] at hX
      exact k h M M0.2.1 hX
    · have e0 : ¬ eN E = 0 := fun q => c_31 (by rw [q]; decide)
      obtain ⟨j1, j2⟩ := hJ b E (by omega) hb
      have hx := j1 (by omega)
      obtain ⟨t, t1, t2, t3⟩ := ch_bsy hn hx x j (a := a * 16807 % 2147483647) (by omega)
      rw [dmE, if_neg e0, fo_nI2 ha, t2, nxL_nI (by omega)] at k
      obtain ⟨κ, hκ, hkd, -⟩ := (j2 t t1 t3).1
      refine V_aload_n 34 dX6_runs_34 rfl ?_
      refine V_iload_n 35 dX6_runs_35 rfl ?_
      refine V_iload_n 36 dX6_runs_36 rfl ?_
      refine V_iload 37 dX6_runs_37 rfl ?_
      refine V_iv3 39 dX6_runs_39 kvX6_147 rfl (by first | exact hX.1.1.1 | exact hX.1.1.2.1 | exact hX.1.1.2.2.1 | exact hX.1.1.2.2.2.1 | exact hX.1.1.2.2.2.2.1 | exact hX.1.1.2.2.2.2.2.1 | exact hX.1.1.2.2.2.2.2.2.1 | exact hX.1.1.2.2.2.2.2.2.2.1 | exact hX.1.1.2.2.2.2.2.2.2.2.1 | exact hX.1.1.2.2.2.2.2.2.2.2.2.1 | exact hX.1.1.2.2.2.2.2.2.2.2.2.2) rfl rfl (c_X6_nextLink1 hX hord hx j hj hj2 a ha hy (fun h y1 hX hy3 => ?_))
      refine V_topi (nI t) t2 ?_
      refine V_istore 42 dX6_runs_42 rfl rfl ?_
      refine V_aload_n 44 dX6_runs_44 rfl ?_
      refine V_iload_n 45 dX6_runs_45 rfl ?_
      refine V_iload 46 dX6_runs_46 rfl ?_
      refine V_iv2 48 dX6_runs_48 kvX6_150 rfl (by first | exact hX.1.1.1 | exact hX.1.1.2.1 | exact hX.1.1.2.2.1 | exact hX.1.1.2.2.2.1 | exact hX.1.1.2.2.2.2.1 | exact hX.1.1.2.2.2.2.2.1 | exact hX.1.1.2.2.2.2.2.2.1 | exact hX.1.1.2.2.2.2.2.2.2.1 | exact hX.1.1.2.2.2.2.2.2.2.2.1 | exact hX.1.1.2.2.2.2.2.2.2.2.2.1 | exact hX.1.1.2.2.2.2.2.2.2.2.2.2) rfl rfl (c_X6_delivers hX t t1 t3 (j2 t t1 t3).1 (fun h M1 hX => ?_))
      refine V_topi (nI κ) hkd ?_
      refine V_istore 51 dX6_runs_51 rfl rfl ?_
      refine V_iload 53 dX6_runs_53 rfl ?_
      refine V_iload 55 dX6_runs_55 rfl ?_
      refine V_if_le 57 64 dX6_runs_57 rfl (fun q => absurd q (nI_nle (by omega) (by omega))) (fun _ => ?_)
      refine V_iconstv 60 (1) dX6_runs_60 (by decide) ?_
      refine V_goto 61 65 dX6_runs_61 rfl ?_
      refine V_iadd 65 dX6_runs_65 ?_
      refine V_istore 66 dX6_runs_66 rfl rfl ?_
      refine V_goto 68 12 dX6_runs_68 rfl ?_
      rw [show c + 1 + i = c + (i + 1) by omega, nI_1 i]
      refine ih (i + 1) (b + 1) (t + 1) (a * 16807 % 2147483647) _ _ _ _ _ h (by omega) (by omega) hX (j2 t t1 t3).2 (nI_1 t) (by omega) (by omega) (fun q => ?_) (Or.inr ⟨_, rfl⟩) (fun h M1 y' hX => ?_)
      · exact hX.2.1.2.1.trans (hy3 q)
      · rw [show i + 1 + (dmE Q x c (t + 1) (nI (a * 16807 % 2147483647)) (dlE Q E (nI t))).1 = i + ((dmE Q x c (t + 1) (nI (a * 16807 % 2147483647)) (dlE Q E (nI t))).1 + 1) by omega]
        exact k h M1 y' hX
set_option maxHeartbeats 1000000 in
set_option maxRecDepth 100000 in
theorem c_X6_runs (hX : WX G h0 h m M0 M r E Q) {J : Nat → ET → Prop} (hJ : JC Q J) {x : Int32} (hord : x = 0 ∨ x = 1 ∨ x = 2 ∨ x = 3) (c b a : Nat) (hc : c ≤ 300) (hb : b + c < 2 ^ 29) (hj : J b E) (ha : a < 2 ^ 31) (k : ∀ h M1 y', WX G h0 h m (mY M0 y') M1 r (dmE Q x c 0 (nI a) E).2 Q → Post (some (.int (nI (dmE Q x c 0 (nI a) E).1))) h sz) : Cn l G yX6_runs cX6_runs 8 (some .int) 7 0 0 [.ref m, .int (nI r), .int x, .int (nI a), .int (nI c)] h sz Post := by
  refine Cn.of RX6 false (by decide) rfl (fun q => by cases q) (Nat.le_of_ble_eq_true rfl) ?_
  refine V_aload_n 0 dX6_runs_0 rfl ?_
  refine V_iload_n 1 dX6_runs_1 rfl ?_
  refine V_i2l 2 dX6_runs_2 ?_
  refine V_topl (lN a) (nI_l ha) ?_
  refine V_putY 3 dX6_runs_3 fpX6_143 hX.1 (fun h hM => ?_)
  replace hX := hX.y hM
  refine V_iconstv 6 (0) dX6_runs_6 (by decide) ?_
  refine V_istore 7 dX6_runs_7 rfl rfl ?_
  refine V_iconstv 9 (-1) dX6_runs_9 (by decide) ?_
  refine V_istore 10 dX6_runs_10 rfl rfl ?_
  refine V_lvw (zget_pad _) ?_
  have K := lp_X6_runs (l := l) (sz := sz) (Post := Post) (G := G) (h0 := h0) (m := m) (r := r) hJ (s := nI a) hord c 0 b 0 a none (-1) E _ _ h (by omega) hb hX hj (by decide) (Nat.zero_le _) ha (fun _ => rfl) (Or.inl rfl) (fun h M1 y' hX => by rw [Nat.zero_add]; exact k h M1 y' hX)
  exact K
end M33
