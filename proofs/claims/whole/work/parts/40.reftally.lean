/-- the tallies -/
def TF (F : FT) (M : MT) : Prop := M.1 23 = F.2.1 ∧ M.1 24 = F.2.2.1 ∧ M.1 25 = F.2.2.2.1 ∧ M.1 26 = F.2.2.2.2
/-- what a search leaves -/
def FRM (D : Nat) (M M1 : MT) : Prop := (∀ j, j < 5 ∨ (12 ≤ j ∧ j < 23) → M1.1 j = M.1 j) ∧ M1.2.1 = M.2.1 ∧ (∀ k, ¬ k = 3 → ¬ k = 7 → M1.2.2.1 k = M.2.2.1 k) ∧ M1.2.2.2 = M.2.2.2 ∧ (∀ q, q < 168 * (21 + D) → M1.2.2.1 3 q = M.2.2.1 3 q) ∧ ∀ j, j < D → M1.2.2.1 7 j = M.2.2.1 7 j
theorem FRM.rf {D : Nat} {M : MT} : FRM D M M := ⟨fun _ _ => rfl, rfl, fun _ _ _ => rfl, rfl, fun _ _ => rfl, fun _ _ => rfl⟩
theorem FRM.tr {D D1 : Nat} (hD : D ≤ D1) {M M1 M2 : MT} (h : FRM D M M1) (g : FRM D1 M1 M2) : FRM D M M2 := by
  obtain ⟨a, b, c, d, e, f⟩ := h
  obtain ⟨a', b', c', d', e', f'⟩ := g
  exact ⟨fun j hj => (a' j hj).trans (a j hj), b'.trans b, fun k h1 h2 => (c' k h1 h2).trans (c k h1 h2), d'.trans d, fun q hq => (e' q (by omega)).trans (e q hq), fun j hj => (f' j (by omega)).trans (f j hj)⟩
theorem FRM.mf {D r : Nat} (hr : 21 + D ≤ r) {M M1 : MT} (h : MF r M M1) : FRM D M M1 := by
  obtain ⟨a, b, c, d, e⟩ := h
  exact ⟨fun j hj => a j (by omega), b, fun k h1 _ => c k h1, d, fun q hq => e q (by omega), fun j _ => congrFun (c 7 (by omega)) j⟩
theorem FRM.n1 {D j : Nat} (hj : D ≤ j) {M : MT} {x : Int32} : FRM D M (mJ M 7 (upd (M.2.2.1 7) j x)) := ⟨fun _ _ => rfl, rfl, fun k _ h7 => va_up_ne _ _ h7, rfl, fun _ _ => rfl, fun q hq => by
  show upd (M.2.2.1 7) j x q = _
  exact pk_un (by omega)⟩
/-- the base of a search -/
def TB (Q : RG) (sb : Int32) (M : MT) : Prop := M.1 0 = nI Q.1 ∧ (∀ i, i < Q.1 → M.2.2.1 1 i = Q.2.1 i) ∧ M.2.2.1 3 3 = sb
theorem TB.of {Q : RG} {sb : Int32} {D : Nat} {M M1 : MT} (h : TB Q sb M) (g : FRM D M M1) : TB Q sb M1 := ⟨(g.1 0 (by omega)).trans h.1, fun i hi => (congrFun (g.2.2.1 1 (by omega) (by omega)) i).trans (h.2.1 i hi), (g.2.2.2.2.1 3 (by omega)).trans h.2.2⟩
theorem TF.of {F : FT} {M M1 : MT} (h : TF F M) (g : ∀ j, 23 ≤ j → M1.1 j = M.1 j) : TF F M1 := by
  unfold TF
  rw [g 23 (by omega), g 24 (by omega), g 25 (by omega), g 26 (by omega)]
  exact h
theorem noteF_1 (Q : RG) (E : ET) (F : FT) : (noteF Q E F).1 = F.1 := rfl
theorem foldl_keep {α β : Type} (f : α → Nat → α) (g : α → β) (h : ∀ s i, g (f s i) = g s) : ∀ (l : List Nat) (s : α), g (l.foldl f s) = g s
  | [], _ => rfl
  | x :: l, s => by rw [List.foldl_cons, foldl_keep f g h l]; exact h s x
theorem exE_1 (Q : RG) : ∀ (m : Nat) (E : ET) (S : FT × (Nat → ET)), (exE Q m E S).1.1 = S.1.1
  | 0, _, _ => rfl
  | m + 1, E, S => by
    rw [exE]
    split
    · rfl
    · refine foldl_keep _ (fun S : FT × (Nat → ET) => S.1.1) (fun S i => ?_) _ _
      unfold exS
      split
      · exact exE_1 Q m _ _
      · rfl
theorem fold_stop {α : Type} (f : α → Nat → α) {n : Nat} (hf : ∀ s i, n ≤ i → f s i = s) (s : α) : ∀ m, n ≤ m → (List.range m).foldl f s = (List.range n).foldl f s := by
  intro m
  induction m with
  | zero => intro h; rw [show n = 0 by omega]
  | succ m ih =>
    intro h
    by_cases e : n = m + 1
    · rw [e]
    · rw [foldl_range_succ, hf _ m (by omega)]
      exact ih (by omega)
theorem nb_hi {Q : RG} {B : Nat} {E : ET} (h : Inv Q B E) {j : Nat} (hj : 2 * Q.1 ≤ j) (hj2 : j < 1000) : ¬ bsy E (nI j) = true := by
  intro q
  have p := bsy_p q
  have e : eL E (6 * fiN (onB E (nI j)) (eN E)) = nI j := of_decide_eq_true (fiN_lt p).1
  obtain ⟨t, t1, t2⟩ := (h.2.2.2.1 _ p).1
  rw [t2] at e
  have := (nI_eq (by have := h.1; omega) (by omega)).mp e
  omega
section M40
variable {B nx hs : Nat} {X : TX} {K : Nat → ET}
variable {l : Launch} {G : zGT} {h h0 : hpT} {sz : Nat} {Post : Option Value → hpT → Nat → Prop} {m r : Nat} {M M0 : MT} {Q : RG} {E : ET}
set_option maxHeartbeats 1000000 in
set_option maxRecDepth 100000 in
theorem c_X6_tallies (hX : WX G h0 h m M M r E Q) (hr : 21 ≤ r) {F : FT} (hF : TF F M) (hs : M.2.2.1 3 3 = F.1) (k : ∀ h M1, WM G h0 h m M1 → TF (noteF Q E F) M1 → (∀ j, j < 23 → M1.1 j = M.1 j) → M1.2 = M.2 → Post none h sz) : Cn l G yX6_tallies cX6_tallies 3 none 3 0 0 [.ref m, .int (nI r)] h sz Post := by
  refine Cn.of RX6 false (by decide) rfl (fun q => by cases q) (Nat.le_of_ble_eq_true rfl) ?_
  have hr24 := hX.2.2.2.2.2.1
  refine V_aload_n 0 dX6_tallies_0 rfl ?_
  refine V_get 1 dX6_tallies_1 fdX6_16 (by first | exact hM.1.1 | exact hM.1.2.1 | exact hM.1.2.2.1 | exact hM.1.2.2.2.1 | exact hM.1.2.2.2.2.1 | exact hM.1.2.2.2.2.2.1 | exact hM.1.2.2.2.2.2.2.1 | exact hM.1.2.2.2.2.2.2.2.1 | exact hM.1.2.2.2.2.2.2.2.2.1 | exact hM.1.2.2.2.2.2.2.2.2.2.1 | exact hM.1.2.2.2.2.2.2.2.2.2.2 | exact hX.1.1.1 | exact hX.1.1.2.1 | exact hX.1.1.2.2.1 | exact hX.1.1.2.2.2.1 | exact hX.1.1.2.2.2.2.1 | exact hX.1.1.2.2.2.2.2.1 | exact hX.1.1.2.2.2.2.2.2.1 | exact hX.1.1.2.2.2.2.2.2.2.1 | exact hX.1.1.2.2.2.2.2.2.2.2.1 | exact hX.1.1.2.2.2.2.2.2.2.2.2.1 | exact hX.1.1.2.2.2.2.2.2.2.2.2.2) rfl ?_
  refine V_sipushv 4 (168) dX6_tallies_4 (by decide) ?_
  refine V_iload_n 7 dX6_tallies_7 rfl ?_
  refine V_imul 8 dX6_tallies_8 ?_
  refine V_topi (nI (168 * r)) (pk_mul 168 r) ?_
  refine V_iconstv 9 (3) dX6_tallies_9 (by decide) ?_
  refine V_iadd 10 dX6_tallies_10 ?_
  refine V_topi (nI (168 * r + 3)) (nI_add _ 3) ?_
  refine V_ialdk 11 (168 * r + 3) (nI_clamp (by omega)) dX6_tallies_11 (by first | exact hM.1.1 | exact hM.1.2.1 | exact hM.1.2.2.1 | exact hM.1.2.2.2.1 | exact hM.1.2.2.2.2.1 | exact hM.1.2.2.2.2.2.1 | exact hM.1.2.2.2.2.2.2.1 | exact hM.1.2.2.2.2.2.2.2.1 | exact hM.1.2.2.2.2.2.2.2.2.1 | exact hM.1.2.2.2.2.2.2.2.2.2.1 | exact hM.1.2.2.2.2.2.2.2.2.2.2 | exact hX.1.1.1 | exact hX.1.1.2.1 | exact hX.1.1.2.2.1 | exact hX.1.1.2.2.2.1 | exact hX.1.1.2.2.2.2.1 | exact hX.1.1.2.2.2.2.2.1 | exact hX.1.1.2.2.2.2.2.2.1 | exact hX.1.1.2.2.2.2.2.2.2.1 | exact hX.1.1.2.2.2.2.2.2.2.2.1 | exact hX.1.1.2.2.2.2.2.2.2.2.2.1 | exact hX.1.1.2.2.2.2.2.2.2.2.2.2) (vp_in_nI (by omega) (by decide)) ?_
  refine V_topi (snE E 0) (hX.2.2.2.2.1.2.2.2.1 0 (by omega)) ?_
  refine V_aload_n 12 dX6_tallies_12 rfl ?_
  refine V_get 13 dX6_tallies_13 fdX6_16 (by first | exact hM.1.1 | exact hM.1.2.1 | exact hM.1.2.2.1 | exact hM.1.2.2.2.1 | exact hM.1.2.2.2.2.1 | exact hM.1.2.2.2.2.2.1 | exact hM.1.2.2.2.2.2.2.1 | exact hM.1.2.2.2.2.2.2.2.1 | exact hM.1.2.2.2.2.2.2.2.2.1 | exact hM.1.2.2.2.2.2.2.2.2.2.1 | exact hM.1.2.2.2.2.2.2.2.2.2.2 | exact hX.1.1.1 | exact hX.1.1.2.1 | exact hX.1.1.2.2.1 | exact hX.1.1.2.2.2.1 | exact hX.1.1.2.2.2.2.1 | exact hX.1.1.2.2.2.2.2.1 | exact hX.1.1.2.2.2.2.2.2.1 | exact hX.1.1.2.2.2.2.2.2.2.1 | exact hX.1.1.2.2.2.2.2.2.2.2.1 | exact hX.1.1.2.2.2.2.2.2.2.2.2.1 | exact hX.1.1.2.2.2.2.2.2.2.2.2.2) rfl ?_
  refine V_iconstv 16 (3) dX6_tallies_16 (by decide) ?_
  refine V_ialdk 17 3 rfl dX6_tallies_17 (by first | exact hM.1.1 | exact hM.1.2.1 | exact hM.1.2.2.1 | exact hM.1.2.2.2.1 | exact hM.1.2.2.2.2.1 | exact hM.1.2.2.2.2.2.1 | exact hM.1.2.2.2.2.2.2.1 | exact hM.1.2.2.2.2.2.2.2.1 | exact hM.1.2.2.2.2.2.2.2.2.1 | exact hM.1.2.2.2.2.2.2.2.2.2.1 | exact hM.1.2.2.2.2.2.2.2.2.2.2 | exact hX.1.1.1 | exact hX.1.1.2.1 | exact hX.1.1.2.2.1 | exact hX.1.1.2.2.2.1 | exact hX.1.1.2.2.2.2.1 | exact hX.1.1.2.2.2.2.2.1 | exact hX.1.1.2.2.2.2.2.2.1 | exact hX.1.1.2.2.2.2.2.2.2.1 | exact hX.1.1.2.2.2.2.2.2.2.2.1 | exact hX.1.1.2.2.2.2.2.2.2.2.2.1 | exact hX.1.1.2.2.2.2.2.2.2.2.2.2) (inb_in (by decide)) ?_
  refine V_isub 18 dX6_tallies_18 ?_
  refine V_topi (snE E 0 - F.1) (by rw [hs]) ?_
  refine V_istore_n 19 dX6_tallies_19 rfl rfl ?_
  refine V_aload_n 20 dX6_tallies_20 rfl ?_
  refine V_aload_n 21 dX6_tallies_21 rfl ?_
  refine V_get 22 dX6_tallies_22 fdX6_248 (by first | exact hM.1.1 | exact hM.1.2.1 | exact hM.1.2.2.1 | exact hM.1.2.2.2.1 | exact hM.1.2.2.2.2.1 | exact hM.1.2.2.2.2.2.1 | exact hM.1.2.2.2.2.2.2.1 | exact hM.1.2.2.2.2.2.2.2.1 | exact hM.1.2.2.2.2.2.2.2.2.1 | exact hM.1.2.2.2.2.2.2.2.2.2.1 | exact hM.1.2.2.2.2.2.2.2.2.2.2 | exact hX.1.1.1 | exact hX.1.1.2.1 | exact hX.1.1.2.2.1 | exact hX.1.1.2.2.2.1 | exact hX.1.1.2.2.2.2.1 | exact hX.1.1.2.2.2.2.2.1 | exact hX.1.1.2.2.2.2.2.2.1 | exact hX.1.1.2.2.2.2.2.2.2.1 | exact hX.1.1.2.2.2.2.2.2.2.2.1 | exact hX.1.1.2.2.2.2.2.2.2.2.2.1 | exact hX.1.1.2.2.2.2.2.2.2.2.2.2) rfl ?_
  refine V_topi F.2.2.2.2 hF.2.2.2 ?_
  refine V_if_eq 25 36 dX6_tallies_25 rfl (fun c_25 => ?_) (fun c_25 => ?_)
  · have e_l : (snE E 0 - F.1) = ntL F (snE E 0 - F.1) := (if_pos c_25).symm
    refine V_iload_n 36 dX6_tallies_36 rfl ?_
    refine V_goto 37 44 dX6_tallies_37 rfl ?_
    refine V_topi _ e_l ?_
    refine V_putM 44 dX6_tallies_44 fpX6_251 hX.1 rfl rfl (fun h hM => ?_)
    refine V_aload_n 47 dX6_tallies_47 rfl ?_
    refine V_iload_n 48 dX6_tallies_48 rfl ?_
    refine V_aload_n 49 dX6_tallies_49 rfl ?_
    refine V_get 50 dX6_tallies_50 fdX6_254 (by first | exact hM.1.1 | exact hM.1.2.1 | exact hM.1.2.2.1 | exact hM.1.2.2.2.1 | exact hM.1.2.2.2.2.1 | exact hM.1.2.2.2.2.2.1 | exact hM.1.2.2.2.2.2.2.1 | exact hM.1.2.2.2.2.2.2.2.1 | exact hM.1.2.2.2.2.2.2.2.2.1 | exact hM.1.2.2.2.2.2.2.2.2.2.1 | exact hM.1.2.2.2.2.2.2.2.2.2.2 | exact hX.1.1.1 | exact hX.1.1.2.1 | exact hX.1.1.2.2.1 | exact hX.1.1.2.2.2.1 | exact hX.1.1.2.2.2.2.1 | exact hX.1.1.2.2.2.2.2.1 | exact hX.1.1.2.2.2.2.2.2.1 | exact hX.1.1.2.2.2.2.2.2.2.1 | exact hX.1.1.2.2.2.2.2.2.2.2.1 | exact hX.1.1.2.2.2.2.2.2.2.2.2.1 | exact hX.1.1.2.2.2.2.2.2.2.2.2.2) rfl ?_
    refine V_topi F.2.2.1 hF.2.1 ?_
    refine V_icmp_le 53 60 dX6_tallies_53 rfl (fun c_53 => ?_) (fun c_53 => ?_)
    · have e_g : F.2.2.1 = ntG F (snE E 0 - F.1) := by unfold ntG; rw [if_neg (Int32.not_lt.mpr c_53)]
      refine V_aload_n 60 dX6_tallies_60 rfl ?_
      refine V_get 61 dX6_tallies_61 fdX6_254 (by first | exact hM.1.1 | exact hM.1.2.1 | exact hM.1.2.2.1 | exact hM.1.2.2.2.1 | exact hM.1.2.2.2.2.1 | exact hM.1.2.2.2.2.2.1 | exact hM.1.2.2.2.2.2.2.1 | exact hM.1.2.2.2.2.2.2.2.1 | exact hM.1.2.2.2.2.2.2.2.2.1 | exact hM.1.2.2.2.2.2.2.2.2.2.1 | exact hM.1.2.2.2.2.2.2.2.2.2.2 | exact hX.1.1.1 | exact hX.1.1.2.1 | exact hX.1.1.2.2.1 | exact hX.1.1.2.2.2.1 | exact hX.1.1.2.2.2.2.1 | exact hX.1.1.2.2.2.2.2.1 | exact hX.1.1.2.2.2.2.2.2.1 | exact hX.1.1.2.2.2.2.2.2.2.1 | exact hX.1.1.2.2.2.2.2.2.2.2.1 | exact hX.1.1.2.2.2.2.2.2.2.2.2.1 | exact hX.1.1.2.2.2.2.2.2.2.2.2.2) rfl ?_
      refine V_topi F.2.2.1 hF.2.1 ?_
      refine V_topi _ e_g ?_
      refine V_putM 64 dX6_tallies_64 fpX6_254 hM rfl rfl (fun h hM => ?_)
      have hX2 : WX G h0 h m _ _ r E Q := ⟨hM, MF.rf, hX.2.2⟩
      refine V_aload_n 67 dX6_tallies_67 rfl ?_
      refine V_dupr 68 dX6_tallies_68 ?_
      refine V_get 69 dX6_tallies_69 fdX6_257 (by first | exact hM.1.1 | exact hM.1.2.1 | exact hM.1.2.2.1 | exact hM.1.2.2.2.1 | exact hM.1.2.2.2.2.1 | exact hM.1.2.2.2.2.2.1 | exact hM.1.2.2.2.2.2.2.1 | exact hM.1.2.2.2.2.2.2.2.1 | exact hM.1.2.2.2.2.2.2.2.2.1 | exact hM.1.2.2.2.2.2.2.2.2.2.1 | exact hM.1.2.2.2.2.2.2.2.2.2.2 | exact hX.1.1.1 | exact hX.1.1.2.1 | exact hX.1.1.2.2.1 | exact hX.1.1.2.2.2.1 | exact hX.1.1.2.2.2.2.1 | exact hX.1.1.2.2.2.2.2.1 | exact hX.1.1.2.2.2.2.2.2.1 | exact hX.1.1.2.2.2.2.2.2.2.1 | exact hX.1.1.2.2.2.2.2.2.2.2.1 | exact hX.1.1.2.2.2.2.2.2.2.2.2.1 | exact hX.1.1.2.2.2.2.2.2.2.2.2.2) rfl ?_
      refine V_topi F.2.2.2.1 hF.2.2.1 ?_
      refine V_aload_n 72 dX6_tallies_72 rfl ?_
      refine V_iload_n 73 dX6_tallies_73 rfl ?_
      refine V_iv1 74 dX6_tallies_74 kvX6_242 rfl (by first | exact hM.1.1 | exact hM.1.2.1 | exact hM.1.2.2.1 | exact hM.1.2.2.2.1 | exact hM.1.2.2.2.2.1 | exact hM.1.2.2.2.2.2.1 | exact hM.1.2.2.2.2.2.2.1 | exact hM.1.2.2.2.2.2.2.2.1 | exact hM.1.2.2.2.2.2.2.2.2.1 | exact hM.1.2.2.2.2.2.2.2.2.2.1 | exact hM.1.2.2.2.2.2.2.2.2.2.2 | exact hX.1.1.1 | exact hX.1.1.2.1 | exact hX.1.1.2.2.1 | exact hX.1.1.2.2.2.1 | exact hX.1.1.2.2.2.2.1 | exact hX.1.1.2.2.2.2.2.1 | exact hX.1.1.2.2.2.2.2.2.1 | exact hX.1.1.2.2.2.2.2.2.2.1 | exact hX.1.1.2.2.2.2.2.2.2.2.1 | exact hX.1.1.2.2.2.2.2.2.2.2.2.1 | exact hX.1.1.2.2.2.2.2.2.2.2.2.2) rfl rfl (c_X6_headOf hX2 ?_)
      refine V_iconstv 77 (-1) dX6_tallies_77 (by decide) ?_
      refine V_icmp_ne 78 85 dX6_tallies_78 rfl (fun c_78 => ?_) (fun c_78 => ?_)
      · have e_h : F.2.2.2.1 + 1 = F.2.2.2.1 + (if hdE E Q.1 = -1 then 0 else 1) := by rw [if_neg c_78]
        refine V_iconstv 85 (1) dX6_tallies_85 (by decide) ?_
        refine V_iadd 86 dX6_tallies_86 ?_
        refine V_topi _ e_h ?_
        refine V_putM 87 dX6_tallies_87 fpX6_257 hM rfl rfl (fun h hM => ?_)
        refine V_aload_n 90 dX6_tallies_90 rfl ?_
        refine V_dupr 91 dX6_tallies_91 ?_
        refine V_get 92 dX6_tallies_92 fdX6_248 (by first | exact hM.1.1 | exact hM.1.2.1 | exact hM.1.2.2.1 | exact hM.1.2.2.2.1 | exact hM.1.2.2.2.2.1 | exact hM.1.2.2.2.2.2.1 | exact hM.1.2.2.2.2.2.2.1 | exact hM.1.2.2.2.2.2.2.2.1 | exact hM.1.2.2.2.2.2.2.2.2.1 | exact hM.1.2.2.2.2.2.2.2.2.2.1 | exact hM.1.2.2.2.2.2.2.2.2.2.2 | exact hX.1.1.1 | exact hX.1.1.2.1 | exact hX.1.1.2.2.1 | exact hX.1.1.2.2.2.1 | exact hX.1.1.2.2.2.2.1 | exact hX.1.1.2.2.2.2.2.1 | exact hX.1.1.2.2.2.2.2.2.1 | exact hX.1.1.2.2.2.2.2.2.2.1 | exact hX.1.1.2.2.2.2.2.2.2.2.1 | exact hX.1.1.2.2.2.2.2.2.2.2.2.1 | exact hX.1.1.2.2.2.2.2.2.2.2.2.2) rfl ?_
        refine V_topi F.2.2.2.2 hF.2.2.2 ?_
        refine V_iconstv 95 (1) dX6_tallies_95 (by decide) ?_
        refine V_iadd 96 dX6_tallies_96 ?_
        refine V_putM 97 dX6_tallies_97 fpX6_248 hM rfl rfl (fun h hM => ?_)
        refine V_vret 100 dX6_tallies_100 ?_
        refine k h _ hM ⟨rfl, rfl, rfl, rfl⟩ (fun j hj => ?_) rfl
        exact ((va_up_ne _ _ (by omega)).trans (va_up_ne _ _ (by omega))).trans ((va_up_ne _ _ (by omega)).trans (va_up_ne _ _ (by omega)))
      · have e_h : F.2.2.2.1 + 0 = F.2.2.2.1 + (if hdE E Q.1 = -1 then 0 else 1) := by rw [if_pos c_78]
        refine V_iconstv 81 (0) dX6_tallies_81 (by decide) ?_
        refine V_goto 82 86 dX6_tallies_82 rfl ?_
        refine V_iadd 86 dX6_tallies_86 ?_
        refine V_topi _ e_h ?_
        refine V_putM 87 dX6_tallies_87 fpX6_257 hM rfl rfl (fun h hM => ?_)
        refine V_aload_n 90 dX6_tallies_90 rfl ?_
        refine V_dupr 91 dX6_tallies_91 ?_
        refine V_get 92 dX6_tallies_92 fdX6_248 (by first | exact hM.1.1 | exact hM.1.2.1 | exact hM.1.2.2.1 | exact hM.1.2.2.2.1 | exact hM.1.2.2.2.2.1 | exact hM.1.2.2.2.2.2.1 | exact hM.1.2.2.2.2.2.2.1 | exact hM.1.2.2.2.2.2.2.2.1 | exact hM.1.2.2.2.2.2.2.2.2.1 | exact hM.1.2.2.2.2.2.2.2.2.2.1 | exact hM.1.2.2.2.2.2.2.2.2.2.2 | exact hX.1.1.1 | exact hX.1.1.2.1 | exact hX.1.1.2.2.1 | exact hX.1.1.2.2.2.1 | exact hX.1.1.2.2.2.2.1 | exact hX.1.1.2.2.2.2.2.1 | exact hX.1.1.2.2.2.2.2.2.1 | exact hX.1.1.2.2.2.2.2.2.2.1 | exact hX.1.1.2.2.2.2.2.2.2.2.1 | exact hX.1.1.2.2.2.2.2.2.2.2.2.1 | exact hX.1.1.2.2.2.2.2.2.2.2.2.2) rfl ?_
        refine V_topi F.2.2.2.2 hF.2.2.2 ?_
        refine V_iconstv 95 (1) dX6_tallies_95 (by decide) ?_
        refine V_iadd 96 dX6_tallies_96 ?_
        refine V_putM 97 dX6_tallies_97 fpX6_248 hM rfl rfl (fun h hM => ?_)
        refine V_vret 100 dX6_tallies_100 ?_
        refine k h _ hM ⟨rfl, rfl, rfl, rfl⟩ (fun j hj => ?_) rfl
        exact ((va_up_ne _ _ (by omega)).trans (va_up_ne _ _ (by omega))).trans ((va_up_ne _ _ (by omega)).trans (va_up_ne _ _ (by omega)))
    · have e_g : (snE E 0 - F.1) = ntG F (snE E 0 - F.1) := by unfold ntG; rw [if_pos (Int32.not_le.mp c_53)]
      refine V_iload_n 56 dX6_tallies_56 rfl ?_
      refine V_goto 57 64 dX6_tallies_57 rfl ?_
      refine V_topi _ e_g ?_
      refine V_putM 64 dX6_tallies_64 fpX6_254 hM rfl rfl (fun h hM => ?_)
      have hX2 : WX G h0 h m _ _ r E Q := ⟨hM, MF.rf, hX.2.2⟩
      refine V_aload_n 67 dX6_tallies_67 rfl ?_
      refine V_dupr 68 dX6_tallies_68 ?_
      refine V_get 69 dX6_tallies_69 fdX6_257 (by first | exact hM.1.1 | exact hM.1.2.1 | exact hM.1.2.2.1 | exact hM.1.2.2.2.1 | exact hM.1.2.2.2.2.1 | exact hM.1.2.2.2.2.2.1 | exact hM.1.2.2.2.2.2.2.1 | exact hM.1.2.2.2.2.2.2.2.1 | exact hM.1.2.2.2.2.2.2.2.2.1 | exact hM.1.2.2.2.2.2.2.2.2.2.1 | exact hM.1.2.2.2.2.2.2.2.2.2.2 | exact hX.1.1.1 | exact hX.1.1.2.1 | exact hX.1.1.2.2.1 | exact hX.1.1.2.2.2.1 | exact hX.1.1.2.2.2.2.1 | exact hX.1.1.2.2.2.2.2.1 | exact hX.1.1.2.2.2.2.2.2.1 | exact hX.1.1.2.2.2.2.2.2.2.1 | exact hX.1.1.2.2.2.2.2.2.2.2.1 | exact hX.1.1.2.2.2.2.2.2.2.2.2.1 | exact hX.1.1.2.2.2.2.2.2.2.2.2.2) rfl ?_
      refine V_topi F.2.2.2.1 hF.2.2.1 ?_
      refine V_aload_n 72 dX6_tallies_72 rfl ?_
      refine V_iload_n 73 dX6_tallies_73 rfl ?_
      refine V_iv1 74 dX6_tallies_74 kvX6_242 rfl (by first | exact hM.1.1 | exact hM.1.2.1 | exact hM.1.2.2.1 | exact hM.1.2.2.2.1 | exact hM.1.2.2.2.2.1 | exact hM.1.2.2.2.2.2.1 | exact hM.1.2.2.2.2.2.2.1 | exact hM.1.2.2.2.2.2.2.2.1 | exact hM.1.2.2.2.2.2.2.2.2.1 | exact hM.1.2.2.2.2.2.2.2.2.2.1 | exact hM.1.2.2.2.2.2.2.2.2.2.2 | exact hX.1.1.1 | exact hX.1.1.2.1 | exact hX.1.1.2.2.1 | exact hX.1.1.2.2.2.1 | exact hX.1.1.2.2.2.2.1 | exact hX.1.1.2.2.2.2.2.1 | exact hX.1.1.2.2.2.2.2.2.1 | exact hX.1.1.2.2.2.2.2.2.2.1 | exact hX.1.1.2.2.2.2.2.2.2.2.1 | exact hX.1.1.2.2.2.2.2.2.2.2.2.1 | exact hX.1.1.2.2.2.2.2.2.2.2.2.2) rfl rfl (c_X6_headOf hX2 ?_)
      refine V_iconstv 77 (-1) dX6_tallies_77 (by decide) ?_
      refine V_icmp_ne 78 85 dX6_tallies_78 rfl (fun c_78 => ?_) (fun c_78 => ?_)
      · have e_h : F.2.2.2.1 + 1 = F.2.2.2.1 + (if hdE E Q.1 = -1 then 0 else 1) := by rw [if_neg c_78]
        refine V_iconstv 85 (1) dX6_tallies_85 (by decide) ?_
        refine V_iadd 86 dX6_tallies_86 ?_
        refine V_topi _ e_h ?_
        refine V_putM 87 dX6_tallies_87 fpX6_257 hM rfl rfl (fun h hM => ?_)
        refine V_aload_n 90 dX6_tallies_90 rfl ?_
        refine V_dupr 91 dX6_tallies_91 ?_
        refine V_get 92 dX6_tallies_92 fdX6_248 (by first | exact hM.1.1 | exact hM.1.2.1 | exact hM.1.2.2.1 | exact hM.1.2.2.2.1 | exact hM.1.2.2.2.2.1 | exact hM.1.2.2.2.2.2.1 | exact hM.1.2.2.2.2.2.2.1 | exact hM.1.2.2.2.2.2.2.2.1 | exact hM.1.2.2.2.2.2.2.2.2.1 | exact hM.1.2.2.2.2.2.2.2.2.2.1 | exact hM.1.2.2.2.2.2.2.2.2.2.2 | exact hX.1.1.1 | exact hX.1.1.2.1 | exact hX.1.1.2.2.1 | exact hX.1.1.2.2.2.1 | exact hX.1.1.2.2.2.2.1 | exact hX.1.1.2.2.2.2.2.1 | exact hX.1.1.2.2.2.2.2.2.1 | exact hX.1.1.2.2.2.2.2.2.2.1 | exact hX.1.1.2.2.2.2.2.2.2.2.1 | exact hX.1.1.2.2.2.2.2.2.2.2.2.1 | exact hX.1.1.2.2.2.2.2.2.2.2.2.2) rfl ?_
        refine V_topi F.2.2.2.2 hF.2.2.2 ?_
        refine V_iconstv 95 (1) dX6_tallies_95 (by decide) ?_
        refine V_iadd 96 dX6_tallies_96 ?_
        refine V_putM 97 dX6_tallies_97 fpX6_248 hM rfl rfl (fun h hM => ?_)
        refine V_vret 100 dX6_tallies_100 ?_
        refine k h _ hM ⟨rfl, rfl, rfl, rfl⟩ (fun j hj => ?_) rfl
        exact ((va_up_ne _ _ (by omega)).trans (va_up_ne _ _ (by omega))).trans ((va_up_ne _ _ (by omega)).trans (va_up_ne _ _ (by omega)))
      · have e_h : F.2.2.2.1 + 0 = F.2.2.2.1 + (if hdE E Q.1 = -1 then 0 else 1) := by rw [if_pos c_78]
        refine V_iconstv 81 (0) dX6_tallies_81 (by decide) ?_
        refine V_goto 82 86 dX6_tallies_82 rfl ?_
        refine V_iadd 86 dX6_tallies_86 ?_
        refine V_topi _ e_h ?_
        refine V_putM 87 dX6_tallies_87 fpX6_257 hM rfl rfl (fun h hM => ?_)
        refine V_aload_n 90 dX6_tallies_90 rfl ?_
        refine V_dupr 91 dX6_tallies_91 ?_
        refine V_get 92 dX6_tallies_92 fdX6_248 (by first | exact hM.1.1 | exact hM.1.2.1 | exact hM.1.2.2.1 | exact hM.1.2.2.2.1 | exact hM.1.2.2.2.2.1 | exact hM.1.2.2.2.2.2.1 | exact hM.1.2.2.2.2.2.2.1 | exact hM.1.2.2.2.2.2.2.2.1 | exact hM.1.2.2.2.2.2.2.2.2.1 | exact hM.1.2.2.2.2.2.2.2.2.2.1 | exact hM.1.2.2.2.2.2.2.2.2.2.2 | exact hX.1.1.1 | exact hX.1.1.2.1 | exact hX.1.1.2.2.1 | exact hX.1.1.2.2.2.1 | exact hX.1.1.2.2.2.2.1 | exact hX.1.1.2.2.2.2.2.1 | exact hX.1.1.2.2.2.2.2.2.1 | exact hX.1.1.2.2.2.2.2.2.2.1 | exact hX.1.1.2.2.2.2.2.2.2.2.1 | exact hX.1.1.2.2.2.2.2.2.2.2.2.1 | exact hX.1.1.2.2.2.2.2.2.2.2.2.2) rfl ?_
        refine V_topi F.2.2.2.2 hF.2.2.2 ?_
        refine V_iconstv 95 (1) dX6_tallies_95 (by decide) ?_
        refine V_iadd 96 dX6_tallies_96 ?_
        refine V_putM 97 dX6_tallies_97 fpX6_248 hM rfl rfl (fun h hM => ?_)
        refine V_vret 100 dX6_tallies_100 ?_
        refine k h _ hM ⟨rfl, rfl, rfl, rfl⟩ (fun j hj => ?_) rfl
        exact ((va_up_ne _ _ (by omega)).trans (va_up_ne _ _ (by omega))).trans ((va_up_ne _ _ (by omega)).trans (va_up_ne _ _ (by omega)))
  · refine V_iload_n 28 dX6_tallies_28 rfl ?_
    refine V_aload_n 29 dX6_tallies_29 rfl ?_
    refine V_get 30 dX6_tallies_30 fdX6_251 (by first | exact hM.1.1 | exact hM.1.2.1 | exact hM.1.2.2.1 | exact hM.1.2.2.2.1 | exact hM.1.2.2.2.2.1 | exact hM.1.2.2.2.2.2.1 | exact hM.1.2.2.2.2.2.2.1 | exact hM.1.2.2.2.2.2.2.2.1 | exact hM.1.2.2.2.2.2.2.2.2.1 | exact hM.1.2.2.2.2.2.2.2.2.2.1 | exact hM.1.2.2.2.2.2.2.2.2.2.2 | exact hX.1.1.1 | exact hX.1.1.2.1 | exact hX.1.1.2.2.1 | exact hX.1.1.2.2.2.1 | exact hX.1.1.2.2.2.2.1 | exact hX.1.1.2.2.2.2.2.1 | exact hX.1.1.2.2.2.2.2.2.1 | exact hX.1.1.2.2.2.2.2.2.2.1 | exact hX.1.1.2.2.2.2.2.2.2.2.1 | exact hX.1.1.2.2.2.2.2.2.2.2.2.1 | exact hX.1.1.2.2.2.2.2.2.2.2.2.2) rfl ?_
    refine V_topi F.2.1 hF.1 ?_
    refine V_icmp_ge 33 40 dX6_tallies_33 rfl (fun c_33 => ?_) (fun c_33 => ?_)
    · have e_l : F.2.1 = ntL F (snE E 0 - F.1) := by unfold ntL; rw [if_neg c_25, if_neg (Int32.not_lt.mpr c_33)]
      refine V_aload_n 40 dX6_tallies_40 rfl ?_
      refine V_get 41 dX6_tallies_41 fdX6_251 (by first | exact hM.1.1 | exact hM.1.2.1 | exact hM.1.2.2.1 | exact hM.1.2.2.2.1 | exact hM.1.2.2.2.2.1 | exact hM.1.2.2.2.2.2.1 | exact hM.1.2.2.2.2.2.2.1 | exact hM.1.2.2.2.2.2.2.2.1 | exact hM.1.2.2.2.2.2.2.2.2.1 | exact hM.1.2.2.2.2.2.2.2.2.2.1 | exact hM.1.2.2.2.2.2.2.2.2.2.2 | exact hX.1.1.1 | exact hX.1.1.2.1 | exact hX.1.1.2.2.1 | exact hX.1.1.2.2.2.1 | exact hX.1.1.2.2.2.2.1 | exact hX.1.1.2.2.2.2.2.1 | exact hX.1.1.2.2.2.2.2.2.1 | exact hX.1.1.2.2.2.2.2.2.2.1 | exact hX.1.1.2.2.2.2.2.2.2.2.1 | exact hX.1.1.2.2.2.2.2.2.2.2.2.1 | exact hX.1.1.2.2.2.2.2.2.2.2.2.2) rfl ?_
      refine V_topi F.2.1 hF.1 ?_
      refine V_topi _ e_l ?_
      refine V_putM 44 dX6_tallies_44 fpX6_251 hX.1 rfl rfl (fun h hM => ?_)
      refine V_aload_n 47 dX6_tallies_47 rfl ?_
      refine V_iload_n 48 dX6_tallies_48 rfl ?_
      refine V_aload_n 49 dX6_tallies_49 rfl ?_
      refine V_get 50 dX6_tallies_50 fdX6_254 (by first | exact hM.1.1 | exact hM.1.2.1 | exact hM.1.2.2.1 | exact hM.1.2.2.2.1 | exact hM.1.2.2.2.2.1 | exact hM.1.2.2.2.2.2.1 | exact hM.1.2.2.2.2.2.2.1 | exact hM.1.2.2.2.2.2.2.2.1 | exact hM.1.2.2.2.2.2.2.2.2.1 | exact hM.1.2.2.2.2.2.2.2.2.2.1 | exact hM.1.2.2.2.2.2.2.2.2.2.2 | exact hX.1.1.1 | exact hX.1.1.2.1 | exact hX.1.1.2.2.1 | exact hX.1.1.2.2.2.1 | exact hX.1.1.2.2.2.2.1 | exact hX.1.1.2.2.2.2.2.1 | exact hX.1.1.2.2.2.2.2.2.1 | exact hX.1.1.2.2.2.2.2.2.2.1 | exact hX.1.1.2.2.2.2.2.2.2.2.1 | exact hX.1.1.2.2.2.2.2.2.2.2.2.1 | exact hX.1.1.2.2.2.2.2.2.2.2.2.2) rfl ?_
      refine V_topi F.2.2.1 hF.2.1 ?_
      refine V_icmp_le 53 60 dX6_tallies_53 rfl (fun c_53 => ?_) (fun c_53 => ?_)
      · have e_g : F.2.2.1 = ntG F (snE E 0 - F.1) := by unfold ntG; rw [if_neg (Int32.not_lt.mpr c_53)]
        refine V_aload_n 60 dX6_tallies_60 rfl ?_
        refine V_get 61 dX6_tallies_61 fdX6_254 (by first | exact hM.1.1 | exact hM.1.2.1 | exact hM.1.2.2.1 | exact hM.1.2.2.2.1 | exact hM.1.2.2.2.2.1 | exact hM.1.2.2.2.2.2.1 | exact hM.1.2.2.2.2.2.2.1 | exact hM.1.2.2.2.2.2.2.2.1 | exact hM.1.2.2.2.2.2.2.2.2.1 | exact hM.1.2.2.2.2.2.2.2.2.2.1 | exact hM.1.2.2.2.2.2.2.2.2.2.2 | exact hX.1.1.1 | exact hX.1.1.2.1 | exact hX.1.1.2.2.1 | exact hX.1.1.2.2.2.1 | exact hX.1.1.2.2.2.2.1 | exact hX.1.1.2.2.2.2.2.1 | exact hX.1.1.2.2.2.2.2.2.1 | exact hX.1.1.2.2.2.2.2.2.2.1 | exact hX.1.1.2.2.2.2.2.2.2.2.1 | exact hX.1.1.2.2.2.2.2.2.2.2.2.1 | exact hX.1.1.2.2.2.2.2.2.2.2.2.2) rfl ?_
        refine V_topi F.2.2.1 hF.2.1 ?_
        refine V_topi _ e_g ?_
        refine V_putM 64 dX6_tallies_64 fpX6_254 hM rfl rfl (fun h hM => ?_)
        have hX2 : WX G h0 h m _ _ r E Q := ⟨hM, MF.rf, hX.2.2⟩
        refine V_aload_n 67 dX6_tallies_67 rfl ?_
        refine V_dupr 68 dX6_tallies_68 ?_
        refine V_get 69 dX6_tallies_69 fdX6_257 (by first | exact hM.1.1 | exact hM.1.2.1 | exact hM.1.2.2.1 | exact hM.1.2.2.2.1 | exact hM.1.2.2.2.2.1 | exact hM.1.2.2.2.2.2.1 | exact hM.1.2.2.2.2.2.2.1 | exact hM.1.2.2.2.2.2.2.2.1 | exact hM.1.2.2.2.2.2.2.2.2.1 | exact hM.1.2.2.2.2.2.2.2.2.2.1 | exact hM.1.2.2.2.2.2.2.2.2.2.2 | exact hX.1.1.1 | exact hX.1.1.2.1 | exact hX.1.1.2.2.1 | exact hX.1.1.2.2.2.1 | exact hX.1.1.2.2.2.2.1 | exact hX.1.1.2.2.2.2.2.1 | exact hX.1.1.2.2.2.2.2.2.1 | exact hX.1.1.2.2.2.2.2.2.2.1 | exact hX.1.1.2.2.2.2.2.2.2.2.1 | exact hX.1.1.2.2.2.2.2.2.2.2.2.1 | exact hX.1.1.2.2.2.2.2.2.2.2.2.2) rfl ?_
        refine V_topi F.2.2.2.1 hF.2.2.1 ?_
        refine V_aload_n 72 dX6_tallies_72 rfl ?_
        refine V_iload_n 73 dX6_tallies_73 rfl ?_
        refine V_iv1 74 dX6_tallies_74 kvX6_242 rfl (by first | exact hM.1.1 | exact hM.1.2.1 | exact hM.1.2.2.1 | exact hM.1.2.2.2.1 | exact hM.1.2.2.2.2.1 | exact hM.1.2.2.2.2.2.1 | exact hM.1.2.2.2.2.2.2.1 | exact hM.1.2.2.2.2.2.2.2.1 | exact hM.1.2.2.2.2.2.2.2.2.1 | exact hM.1.2.2.2.2.2.2.2.2.2.1 | exact hM.1.2.2.2.2.2.2.2.2.2.2 | exact hX.1.1.1 | exact hX.1.1.2.1 | exact hX.1.1.2.2.1 | exact hX.1.1.2.2.2.1 | exact hX.1.1.2.2.2.2.1 | exact hX.1.1.2.2.2.2.2.1 | exact hX.1.1.2.2.2.2.2.2.1 | exact hX.1.1.2.2.2.2.2.2.2.1 | exact hX.1.1.2.2.2.2.2.2.2.2.1 | exact hX.1.1.2.2.2.2.2.2.2.2.2.1 | exact hX.1.1.2.2.2.2.2.2.2.2.2.2) rfl rfl (c_X6_headOf hX2 ?_)
        refine V_iconstv 77 (-1) dX6_tallies_77 (by decide) ?_
        refine V_icmp_ne 78 85 dX6_tallies_78 rfl (fun c_78 => ?_) (fun c_78 => ?_)
        · have e_h : F.2.2.2.1 + 1 = F.2.2.2.1 + (if hdE E Q.1 = -1 then 0 else 1) := by rw [if_neg c_78]
          refine V_iconstv 85 (1) dX6_tallies_85 (by decide) ?_
          refine V_iadd 86 dX6_tallies_86 ?_
          refine V_topi _ e_h ?_
          refine V_putM 87 dX6_tallies_87 fpX6_257 hM rfl rfl (fun h hM => ?_)
          refine V_aload_n 90 dX6_tallies_90 rfl ?_
          refine V_dupr 91 dX6_tallies_91 ?_
          refine V_get 92 dX6_tallies_92 fdX6_248 (by first | exact hM.1.1 | exact hM.1.2.1 | exact hM.1.2.2.1 | exact hM.1.2.2.2.1 | exact hM.1.2.2.2.2.1 | exact hM.1.2.2.2.2.2.1 | exact hM.1.2.2.2.2.2.2.1 | exact hM.1.2.2.2.2.2.2.2.1 | exact hM.1.2.2.2.2.2.2.2.2.1 | exact hM.1.2.2.2.2.2.2.2.2.2.1 | exact hM.1.2.2.2.2.2.2.2.2.2.2 | exact hX.1.1.1 | exact hX.1.1.2.1 | exact hX.1.1.2.2.1 | exact hX.1.1.2.2.2.1 | exact hX.1.1.2.2.2.2.1 | exact hX.1.1.2.2.2.2.2.1 | exact hX.1.1.2.2.2.2.2.2.1 | exact hX.1.1.2.2.2.2.2.2.2.1 | exact hX.1.1.2.2.2.2.2.2.2.2.1 | exact hX.1.1.2.2.2.2.2.2.2.2.2.1 | exact hX.1.1.2.2.2.2.2.2.2.2.2.2) rfl ?_
          refine V_topi F.2.2.2.2 hF.2.2.2 ?_
          refine V_iconstv 95 (1) dX6_tallies_95 (by decide) ?_
          refine V_iadd 96 dX6_tallies_96 ?_
          refine V_putM 97 dX6_tallies_97 fpX6_248 hM rfl rfl (fun h hM => ?_)
          refine V_vret 100 dX6_tallies_100 ?_
          refine k h _ hM ⟨rfl, rfl, rfl, rfl⟩ (fun j hj => ?_) rfl
          exact ((va_up_ne _ _ (by omega)).trans (va_up_ne _ _ (by omega))).trans ((va_up_ne _ _ (by omega)).trans (va_up_ne _ _ (by omega)))
        · have e_h : F.2.2.2.1 + 0 = F.2.2.2.1 + (if hdE E Q.1 = -1 then 0 else 1) := by rw [if_pos c_78]
          refine V_iconstv 81 (0) dX6_tallies_81 (by decide) ?_
          refine V_goto 82 86 dX6_tallies_82 rfl ?_
          refine V_iadd 86 dX6_tallies_86 ?_
          refine V_topi _ e_h ?_
          refine V_putM 87 dX6_tallies_87 fpX6_257 hM rfl rfl (fun h hM => ?_)
          refine V_aload_n 90 dX6_tallies_90 rfl ?_
          refine V_dupr 91 dX6_tallies_91 ?_
          refine V_get 92 dX6_tallies_92 fdX6_248 (by first | exact hM.1.1 | exact hM.1.2.1 | exact hM.1.2.2.1 | exact hM.1.2.2.2.1 | exact hM.1.2.2.2.2.1 | exact hM.1.2.2.2.2.2.1 | exact hM.1.2.2.2.2.2.2.1 | exact hM.1.2.2.2.2.2.2.2.1 | exact hM.1.2.2.2.2.2.2.2.2.1 | exact hM.1.2.2.2.2.2.2.2.2.2.1 | exact hM.1.2.2.2.2.2.2.2.2.2.2 | exact hX.1.1.1 | exact hX.1.1.2.1 | exact hX.1.1.2.2.1 | exact hX.1.1.2.2.2.1 | exact hX.1.1.2.2.2.2.1 | exact hX.1.1.2.2.2.2.2.1 | exact hX.1.1.2.2.2.2.2.2.1 | exact hX.1.1.2.2.2.2.2.2.2.1 | exact hX.1.1.2.2.2.2.2.2.2.2.1 | exact hX.1.1.2.2.2.2.2.2.2.2.2.1 | exact hX.1.1.2.2.2.2.2.2.2.2.2.2) rfl ?_
          refine V_topi F.2.2.2.2 hF.2.2.2 ?_
          refine V_iconstv 95 (1) dX6_tallies_95 (by decide) ?_
          refine V_iadd 96 dX6_tallies_96 ?_
          refine V_putM 97 dX6_tallies_97 fpX6_248 hM rfl rfl (fun h hM => ?_)
          refine V_vret 100 dX6_tallies_100 ?_
          refine k h _ hM ⟨rfl, rfl, rfl, rfl⟩ (fun j hj => ?_) rfl
          exact ((va_up_ne _ _ (by omega)).trans (va_up_ne _ _ (by omega))).trans ((va_up_ne _ _ (by omega)).trans (va_up_ne _ _ (by omega)))
      · have e_g : (snE E 0 - F.1) = ntG F (snE E 0 - F.1) := by unfold ntG; rw [if_pos (Int32.not_le.mp c_53)]
        refine V_iload_n 56 dX6_tallies_56 rfl ?_
        refine V_goto 57 64 dX6_tallies_57 rfl ?_
        refine V_topi _ e_g ?_
        refine V_putM 64 dX6_tallies_64 fpX6_254 hM rfl rfl (fun h hM => ?_)
        have hX2 : WX G h0 h m _ _ r E Q := ⟨hM, MF.rf, hX.2.2⟩
        refine V_aload_n 67 dX6_tallies_67 rfl ?_
        refine V_dupr 68 dX6_tallies_68 ?_
        refine V_get 69 dX6_tallies_69 fdX6_257 (by first | exact hM.1.1 | exact hM.1.2.1 | exact hM.1.2.2.1 | exact hM.1.2.2.2.1 | exact hM.1.2.2.2.2.1 | exact hM.1.2.2.2.2.2.1 | exact hM.1.2.2.2.2.2.2.1 | exact hM.1.2.2.2.2.2.2.2.1 | exact hM.1.2.2.2.2.2.2.2.2.1 | exact hM.1.2.2.2.2.2.2.2.2.2.1 | exact hM.1.2.2.2.2.2.2.2.2.2.2 | exact hX.1.1.1 | exact hX.1.1.2.1 | exact hX.1.1.2.2.1 | exact hX.1.1.2.2.2.1 | exact hX.1.1.2.2.2.2.1 | exact hX.1.1.2.2.2.2.2.1 | exact hX.1.1.2.2.2.2.2.2.1 | exact hX.1.1.2.2.2.2.2.2.2.1 | exact hX.1.1.2.2.2.2.2.2.2.2.1 | exact hX.1.1.2.2.2.2.2.2.2.2.2.1 | exact hX.1.1.2.2.2.2.2.2.2.2.2.2) rfl ?_
        refine V_topi F.2.2.2.1 hF.2.2.1 ?_
        refine V_aload_n 72 dX6_tallies_72 rfl ?_
        refine V_iload_n 73 dX6_tallies_73 rfl ?_
        refine V_iv1 74 dX6_tallies_74 kvX6_242 rfl (by first | exact hM.1.1 | exact hM.1.2.1 | exact hM.1.2.2.1 | exact hM.1.2.2.2.1 | exact hM.1.2.2.2.2.1 | exact hM.1.2.2.2.2.2.1 | exact hM.1.2.2.2.2.2.2.1 | exact hM.1.2.2.2.2.2.2.2.1 | exact hM.1.2.2.2.2.2.2.2.2.1 | exact hM.1.2.2.2.2.2.2.2.2.2.1 | exact hM.1.2.2.2.2.2.2.2.2.2.2 | exact hX.1.1.1 | exact hX.1.1.2.1 | exact hX.1.1.2.2.1 | exact hX.1.1.2.2.2.1 | exact hX.1.1.2.2.2.2.1 | exact hX.1.1.2.2.2.2.2.1 | exact hX.1.1.2.2.2.2.2.2.1 | exact hX.1.1.2.2.2.2.2.2.2.1 | exact hX.1.1.2.2.2.2.2.2.2.2.1 | exact hX.1.1.2.2.2.2.2.2.2.2.2.1 | exact hX.1.1.2.2.2.2.2.2.2.2.2.2) rfl rfl (c_X6_headOf hX2 ?_)
        refine V_iconstv 77 (-1) dX6_tallies_77 (by decide) ?_
        refine V_icmp_ne 78 85 dX6_tallies_78 rfl (fun c_78 => ?_) (fun c_78 => ?_)
        · have e_h : F.2.2.2.1 + 1 = F.2.2.2.1 + (if hdE E Q.1 = -1 then 0 else 1) := by rw [if_neg c_78]
          refine V_iconstv 85 (1) dX6_tallies_85 (by decide) ?_
          refine V_iadd 86 dX6_tallies_86 ?_
          refine V_topi _ e_h ?_
          refine V_putM 87 dX6_tallies_87 fpX6_257 hM rfl rfl (fun h hM => ?_)
          refine V_aload_n 90 dX6_tallies_90 rfl ?_
          refine V_dupr 91 dX6_tallies_91 ?_
          refine V_get 92 dX6_tallies_92 fdX6_248 (by first | exact hM.1.1 | exact hM.1.2.1 | exact hM.1.2.2.1 | exact hM.1.2.2.2.1 | exact hM.1.2.2.2.2.1 | exact hM.1.2.2.2.2.2.1 | exact hM.1.2.2.2.2.2.2.1 | exact hM.1.2.2.2.2.2.2.2.1 | exact hM.1.2.2.2.2.2.2.2.2.1 | exact hM.1.2.2.2.2.2.2.2.2.2.1 | exact hM.1.2.2.2.2.2.2.2.2.2.2 | exact hX.1.1.1 | exact hX.1.1.2.1 | exact hX.1.1.2.2.1 | exact hX.1.1.2.2.2.1 | exact hX.1.1.2.2.2.2.1 | exact hX.1.1.2.2.2.2.2.1 | exact hX.1.1.2.2.2.2.2.2.1 | exact hX.1.1.2.2.2.2.2.2.2.1 | exact hX.1.1.2.2.2.2.2.2.2.2.1 | exact hX.1.1.2.2.2.2.2.2.2.2.2.1 | exact hX.1.1.2.2.2.2.2.2.2.2.2.2) rfl ?_
          refine V_topi F.2.2.2.2 hF.2.2.2 ?_
          refine V_iconstv 95 (1) dX6_tallies_95 (by decide) ?_
          refine V_iadd 96 dX6_tallies_96 ?_
          refine V_putM 97 dX6_tallies_97 fpX6_248 hM rfl rfl (fun h hM => ?_)
          refine V_vret 100 dX6_tallies_100 ?_
          refine k h _ hM ⟨rfl, rfl, rfl, rfl⟩ (fun j hj => ?_) rfl
          exact ((va_up_ne _ _ (by omega)).trans (va_up_ne _ _ (by omega))).trans ((va_up_ne _ _ (by omega)).trans (va_up_ne _ _ (by omega)))
        · have e_h : F.2.2.2.1 + 0 = F.2.2.2.1 + (if hdE E Q.1 = -1 then 0 else 1) := by rw [if_pos c_78]
          refine V_iconstv 81 (0) dX6_tallies_81 (by decide) ?_
          refine V_goto 82 86 dX6_tallies_82 rfl ?_
          refine V_iadd 86 dX6_tallies_86 ?_
          refine V_topi _ e_h ?_
          refine V_putM 87 dX6_tallies_87 fpX6_257 hM rfl rfl (fun h hM => ?_)
          refine V_aload_n 90 dX6_tallies_90 rfl ?_
          refine V_dupr 91 dX6_tallies_91 ?_
          refine V_get 92 dX6_tallies_92 fdX6_248 (by first | exact hM.1.1 | exact hM.1.2.1 | exact hM.1.2.2.1 | exact hM.1.2.2.2.1 | exact hM.1.2.2.2.2.1 | exact hM.1.2.2.2.2.2.1 | exact hM.1.2.2.2.2.2.2.1 | exact hM.1.2.2.2.2.2.2.2.1 | exact hM.1.2.2.2.2.2.2.2.2.1 | exact hM.1.2.2.2.2.2.2.2.2.2.1 | exact hM.1.2.2.2.2.2.2.2.2.2.2 | exact hX.1.1.1 | exact hX.1.1.2.1 | exact hX.1.1.2.2.1 | exact hX.1.1.2.2.2.1 | exact hX.1.1.2.2.2.2.1 | exact hX.1.1.2.2.2.2.2.1 | exact hX.1.1.2.2.2.2.2.2.1 | exact hX.1.1.2.2.2.2.2.2.2.1 | exact hX.1.1.2.2.2.2.2.2.2.2.1 | exact hX.1.1.2.2.2.2.2.2.2.2.2.1 | exact hX.1.1.2.2.2.2.2.2.2.2.2.2) rfl ?_
          refine V_topi F.2.2.2.2 hF.2.2.2 ?_
          refine V_iconstv 95 (1) dX6_tallies_95 (by decide) ?_
          refine V_iadd 96 dX6_tallies_96 ?_
          refine V_putM 97 dX6_tallies_97 fpX6_248 hM rfl rfl (fun h hM => ?_)
          refine V_vret 100 dX6_tallies_100 ?_
          refine k h _ hM ⟨rfl, rfl, rfl, rfl⟩ (fun j hj => ?_) rfl
          exact ((va_up_ne _ _ (by omega)).trans (va_up_ne _ _ (by omega))).trans ((va_up_ne _ _ (by omega)).trans (va_up_ne _ _ (by omega)))
    · have e_l : (snE E 0 - F.1) = ntL F (snE E 0 - F.1) := by unfold ntL; rw [if_neg c_25, if_pos (Int32.not_le.mp c_33)]
      refine V_iload_n 36 dX6_tallies_36 rfl ?_
      refine V_goto 37 44 dX6_tallies_37 rfl ?_
      refine V_topi _ e_l ?_
      refine V_putM 44 dX6_tallies_44 fpX6_251 hX.1 rfl rfl (fun h hM => ?_)
      refine V_aload_n 47 dX6_tallies_47 rfl ?_
      refine V_iload_n 48 dX6_tallies_48 rfl ?_
      refine V_aload_n 49 dX6_tallies_49 rfl ?_
      refine V_get 50 dX6_tallies_50 fdX6_254 (by first | exact hM.1.1 | exact hM.1.2.1 | exact hM.1.2.2.1 | exact hM.1.2.2.2.1 | exact hM.1.2.2.2.2.1 | exact hM.1.2.2.2.2.2.1 | exact hM.1.2.2.2.2.2.2.1 | exact hM.1.2.2.2.2.2.2.2.1 | exact hM.1.2.2.2.2.2.2.2.2.1 | exact hM.1.2.2.2.2.2.2.2.2.2.1 | exact hM.1.2.2.2.2.2.2.2.2.2.2 | exact hX.1.1.1 | exact hX.1.1.2.1 | exact hX.1.1.2.2.1 | exact hX.1.1.2.2.2.1 | exact hX.1.1.2.2.2.2.1 | exact hX.1.1.2.2.2.2.2.1 | exact hX.1.1.2.2.2.2.2.2.1 | exact hX.1.1.2.2.2.2.2.2.2.1 | exact hX.1.1.2.2.2.2.2.2.2.2.1 | exact hX.1.1.2.2.2.2.2.2.2.2.2.1 | exact hX.1.1.2.2.2.2.2.2.2.2.2.2) rfl ?_
      refine V_topi F.2.2.1 hF.2.1 ?_
      refine V_icmp_le 53 60 dX6_tallies_53 rfl (fun c_53 => ?_) (fun c_53 => ?_)
      · have e_g : F.2.2.1 = ntG F (snE E 0 - F.1) := by unfold ntG; rw [if_neg (Int32.not_lt.mpr c_53)]
        refine V_aload_n 60 dX6_tallies_60 rfl ?_
        refine V_get 61 dX6_tallies_61 fdX6_254 (by first | exact hM.1.1 | exact hM.1.2.1 | exact hM.1.2.2.1 | exact hM.1.2.2.2.1 | exact hM.1.2.2.2.2.1 | exact hM.1.2.2.2.2.2.1 | exact hM.1.2.2.2.2.2.2.1 | exact hM.1.2.2.2.2.2.2.2.1 | exact hM.1.2.2.2.2.2.2.2.2.1 | exact hM.1.2.2.2.2.2.2.2.2.2.1 | exact hM.1.2.2.2.2.2.2.2.2.2.2 | exact hX.1.1.1 | exact hX.1.1.2.1 | exact hX.1.1.2.2.1 | exact hX.1.1.2.2.2.1 | exact hX.1.1.2.2.2.2.1 | exact hX.1.1.2.2.2.2.2.1 | exact hX.1.1.2.2.2.2.2.2.1 | exact hX.1.1.2.2.2.2.2.2.2.1 | exact hX.1.1.2.2.2.2.2.2.2.2.1 | exact hX.1.1.2.2.2.2.2.2.2.2.2.1 | exact hX.1.1.2.2.2.2.2.2.2.2.2.2) rfl ?_
        refine V_topi F.2.2.1 hF.2.1 ?_
        refine V_topi _ e_g ?_
        refine V_putM 64 dX6_tallies_64 fpX6_254 hM rfl rfl (fun h hM => ?_)
        have hX2 : WX G h0 h m _ _ r E Q := ⟨hM, MF.rf, hX.2.2⟩
        refine V_aload_n 67 dX6_tallies_67 rfl ?_
        refine V_dupr 68 dX6_tallies_68 ?_
        refine V_get 69 dX6_tallies_69 fdX6_257 (by first | exact hM.1.1 | exact hM.1.2.1 | exact hM.1.2.2.1 | exact hM.1.2.2.2.1 | exact hM.1.2.2.2.2.1 | exact hM.1.2.2.2.2.2.1 | exact hM.1.2.2.2.2.2.2.1 | exact hM.1.2.2.2.2.2.2.2.1 | exact hM.1.2.2.2.2.2.2.2.2.1 | exact hM.1.2.2.2.2.2.2.2.2.2.1 | exact hM.1.2.2.2.2.2.2.2.2.2.2 | exact hX.1.1.1 | exact hX.1.1.2.1 | exact hX.1.1.2.2.1 | exact hX.1.1.2.2.2.1 | exact hX.1.1.2.2.2.2.1 | exact hX.1.1.2.2.2.2.2.1 | exact hX.1.1.2.2.2.2.2.2.1 | exact hX.1.1.2.2.2.2.2.2.2.1 | exact hX.1.1.2.2.2.2.2.2.2.2.1 | exact hX.1.1.2.2.2.2.2.2.2.2.2.1 | exact hX.1.1.2.2.2.2.2.2.2.2.2.2) rfl ?_
        refine V_topi F.2.2.2.1 hF.2.2.1 ?_
        refine V_aload_n 72 dX6_tallies_72 rfl ?_
        refine V_iload_n 73 dX6_tallies_73 rfl ?_
        refine V_iv1 74 dX6_tallies_74 kvX6_242 rfl (by first | exact hM.1.1 | exact hM.1.2.1 | exact hM.1.2.2.1 | exact hM.1.2.2.2.1 | exact hM.1.2.2.2.2.1 | exact hM.1.2.2.2.2.2.1 | exact hM.1.2.2.2.2.2.2.1 | exact hM.1.2.2.2.2.2.2.2.1 | exact hM.1.2.2.2.2.2.2.2.2.1 | exact hM.1.2.2.2.2.2.2.2.2.2.1 | exact hM.1.2.2.2.2.2.2.2.2.2.2 | exact hX.1.1.1 | exact hX.1.1.2.1 | exact hX.1.1.2.2.1 | exact hX.1.1.2.2.2.1 | exact hX.1.1.2.2.2.2.1 | exact hX.1.1.2.2.2.2.2.1 | exact hX.1.1.2.2.2.2.2.2.1 | exact hX.1.1.2.2.2.2.2.2.2.1 | exact hX.1.1.2.2.2.2.2.2.2.2.1 | exact hX.1.1.2.2.2.2.2.2.2.2.2.1 | exact hX.1.1.2.2.2.2.2.2.2.2.2.2) rfl rfl (c_X6_headOf hX2 ?_)
        refine V_iconstv 77 (-1) dX6_tallies_77 (by decide) ?_
        refine V_icmp_ne 78 85 dX6_tallies_78 rfl (fun c_78 => ?_) (fun c_78 => ?_)
        · have e_h : F.2.2.2.1 + 1 = F.2.2.2.1 + (if hdE E Q.1 = -1 then 0 else 1) := by rw [if_neg c_78]
          refine V_iconstv 85 (1) dX6_tallies_85 (by decide) ?_
          refine V_iadd 86 dX6_tallies_86 ?_
          refine V_topi _ e_h ?_
          refine V_putM 87 dX6_tallies_87 fpX6_257 hM rfl rfl (fun h hM => ?_)
          refine V_aload_n 90 dX6_tallies_90 rfl ?_
          refine V_dupr 91 dX6_tallies_91 ?_
          refine V_get 92 dX6_tallies_92 fdX6_248 (by first | exact hM.1.1 | exact hM.1.2.1 | exact hM.1.2.2.1 | exact hM.1.2.2.2.1 | exact hM.1.2.2.2.2.1 | exact hM.1.2.2.2.2.2.1 | exact hM.1.2.2.2.2.2.2.1 | exact hM.1.2.2.2.2.2.2.2.1 | exact hM.1.2.2.2.2.2.2.2.2.1 | exact hM.1.2.2.2.2.2.2.2.2.2.1 | exact hM.1.2.2.2.2.2.2.2.2.2.2 | exact hX.1.1.1 | exact hX.1.1.2.1 | exact hX.1.1.2.2.1 | exact hX.1.1.2.2.2.1 | exact hX.1.1.2.2.2.2.1 | exact hX.1.1.2.2.2.2.2.1 | exact hX.1.1.2.2.2.2.2.2.1 | exact hX.1.1.2.2.2.2.2.2.2.1 | exact hX.1.1.2.2.2.2.2.2.2.2.1 | exact hX.1.1.2.2.2.2.2.2.2.2.2.1 | exact hX.1.1.2.2.2.2.2.2.2.2.2.2) rfl ?_
          refine V_topi F.2.2.2.2 hF.2.2.2 ?_
          refine V_iconstv 95 (1) dX6_tallies_95 (by decide) ?_
          refine V_iadd 96 dX6_tallies_96 ?_
          refine V_putM 97 dX6_tallies_97 fpX6_248 hM rfl rfl (fun h hM => ?_)
          refine V_vret 100 dX6_tallies_100 ?_
          refine k h _ hM ⟨rfl, rfl, rfl, rfl⟩ (fun j hj => ?_) rfl
          exact ((va_up_ne _ _ (by omega)).trans (va_up_ne _ _ (by omega))).trans ((va_up_ne _ _ (by omega)).trans (va_up_ne _ _ (by omega)))
        · have e_h : F.2.2.2.1 + 0 = F.2.2.2.1 + (if hdE E Q.1 = -1 then 0 else 1) := by rw [if_pos c_78]
          refine V_iconstv 81 (0) dX6_tallies_81 (by decide) ?_
          refine V_goto 82 86 dX6_tallies_82 rfl ?_
          refine V_iadd 86 dX6_tallies_86 ?_
          refine V_topi _ e_h ?_
          refine V_putM 87 dX6_tallies_87 fpX6_257 hM rfl rfl (fun h hM => ?_)
          refine V_aload_n 90 dX6_tallies_90 rfl ?_
          refine V_dupr 91 dX6_tallies_91 ?_
          refine V_get 92 dX6_tallies_92 fdX6_248 (by first | exact hM.1.1 | exact hM.1.2.1 | exact hM.1.2.2.1 | exact hM.1.2.2.2.1 | exact hM.1.2.2.2.2.1 | exact hM.1.2.2.2.2.2.1 | exact hM.1.2.2.2.2.2.2.1 | exact hM.1.2.2.2.2.2.2.2.1 | exact hM.1.2.2.2.2.2.2.2.2.1 | exact hM.1.2.2.2.2.2.2.2.2.2.1 | exact hM.1.2.2.2.2.2.2.2.2.2.2 | exact hX.1.1.1 | exact hX.1.1.2.1 | exact hX.1.1.2.2.1 | exact hX.1.1.2.2.2.1 | exact hX.1.1.2.2.2.2.1 | exact hX.1.1.2.2.2.2.2.1 | exact hX.1.1.2.2.2.2.2.2.1 | exact hX.1.1.2.2.2.2.2.2.2.1 | exact hX.1.1.2.2.2.2.2.2.2.2.1 | exact hX.1.1.2.2.2.2.2.2.2.2.2.1 | exact hX.1.1.2.2.2.2.2.2.2.2.2.2) rfl ?_
          refine V_topi F.2.2.2.2 hF.2.2.2 ?_
          refine V_iconstv 95 (1) dX6_tallies_95 (by decide) ?_
          refine V_iadd 96 dX6_tallies_96 ?_
          refine V_putM 97 dX6_tallies_97 fpX6_248 hM rfl rfl (fun h hM => ?_)
          refine V_vret 100 dX6_tallies_100 ?_
          refine k h _ hM ⟨rfl, rfl, rfl, rfl⟩ (fun j hj => ?_) rfl
          exact ((va_up_ne _ _ (by omega)).trans (va_up_ne _ _ (by omega))).trans ((va_up_ne _ _ (by omega)).trans (va_up_ne _ _ (by omega)))
      · have e_g : (snE E 0 - F.1) = ntG F (snE E 0 - F.1) := by unfold ntG; rw [if_pos (Int32.not_le.mp c_53)]
        refine V_iload_n 56 dX6_tallies_56 rfl ?_
        refine V_goto 57 64 dX6_tallies_57 rfl ?_
        refine V_topi _ e_g ?_
        refine V_putM 64 dX6_tallies_64 fpX6_254 hM rfl rfl (fun h hM => ?_)
        have hX2 : WX G h0 h m _ _ r E Q := ⟨hM, MF.rf, hX.2.2⟩
        refine V_aload_n 67 dX6_tallies_67 rfl ?_
        refine V_dupr 68 dX6_tallies_68 ?_
        refine V_get 69 dX6_tallies_69 fdX6_257 (by first | exact hM.1.1 | exact hM.1.2.1 | exact hM.1.2.2.1 | exact hM.1.2.2.2.1 | exact hM.1.2.2.2.2.1 | exact hM.1.2.2.2.2.2.1 | exact hM.1.2.2.2.2.2.2.1 | exact hM.1.2.2.2.2.2.2.2.1 | exact hM.1.2.2.2.2.2.2.2.2.1 | exact hM.1.2.2.2.2.2.2.2.2.2.1 | exact hM.1.2.2.2.2.2.2.2.2.2.2 | exact hX.1.1.1 | exact hX.1.1.2.1 | exact hX.1.1.2.2.1 | exact hX.1.1.2.2.2.1 | exact hX.1.1.2.2.2.2.1 | exact hX.1.1.2.2.2.2.2.1 | exact hX.1.1.2.2.2.2.2.2.1 | exact hX.1.1.2.2.2.2.2.2.2.1 | exact hX.1.1.2.2.2.2.2.2.2.2.1 | exact hX.1.1.2.2.2.2.2.2.2.2.2.1 | exact hX.1.1.2.2.2.2.2.2.2.2.2.2) rfl ?_
        refine V_topi F.2.2.2.1 hF.2.2.1 ?_
        refine V_aload_n 72 dX6_tallies_72 rfl ?_
        refine V_iload_n 73 dX6_tallies_73 rfl ?_
        refine V_iv1 74 dX6_tallies_74 kvX6_242 rfl (by first | exact hM.1.1 | exact hM.1.2.1 | exact hM.1.2.2.1 | exact hM.1.2.2.2.1 | exact hM.1.2.2.2.2.1 | exact hM.1.2.2.2.2.2.1 | exact hM.1.2.2.2.2.2.2.1 | exact hM.1.2.2.2.2.2.2.2.1 | exact hM.1.2.2.2.2.2.2.2.2.1 | exact hM.1.2.2.2.2.2.2.2.2.2.1 | exact hM.1.2.2.2.2.2.2.2.2.2.2 | exact hX.1.1.1 | exact hX.1.1.2.1 | exact hX.1.1.2.2.1 | exact hX.1.1.2.2.2.1 | exact hX.1.1.2.2.2.2.1 | exact hX.1.1.2.2.2.2.2.1 | exact hX.1.1.2.2.2.2.2.2.1 | exact hX.1.1.2.2.2.2.2.2.2.1 | exact hX.1.1.2.2.2.2.2.2.2.2.1 | exact hX.1.1.2.2.2.2.2.2.2.2.2.1 | exact hX.1.1.2.2.2.2.2.2.2.2.2.2) rfl rfl (c_X6_headOf hX2 ?_)
        refine V_iconstv 77 (-1) dX6_tallies_77 (by decide) ?_
        refine V_icmp_ne 78 85 dX6_tallies_78 rfl (fun c_78 => ?_) (fun c_78 => ?_)
        · have e_h : F.2.2.2.1 + 1 = F.2.2.2.1 + (if hdE E Q.1 = -1 then 0 else 1) := by rw [if_neg c_78]
          refine V_iconstv 85 (1) dX6_tallies_85 (by decide) ?_
          refine V_iadd 86 dX6_tallies_86 ?_
          refine V_topi _ e_h ?_
          refine V_putM 87 dX6_tallies_87 fpX6_257 hM rfl rfl (fun h hM => ?_)
          refine V_aload_n 90 dX6_tallies_90 rfl ?_
          refine V_dupr 91 dX6_tallies_91 ?_
          refine V_get 92 dX6_tallies_92 fdX6_248 (by first | exact hM.1.1 | exact hM.1.2.1 | exact hM.1.2.2.1 | exact hM.1.2.2.2.1 | exact hM.1.2.2.2.2.1 | exact hM.1.2.2.2.2.2.1 | exact hM.1.2.2.2.2.2.2.1 | exact hM.1.2.2.2.2.2.2.2.1 | exact hM.1.2.2.2.2.2.2.2.2.1 | exact hM.1.2.2.2.2.2.2.2.2.2.1 | exact hM.1.2.2.2.2.2.2.2.2.2.2 | exact hX.1.1.1 | exact hX.1.1.2.1 | exact hX.1.1.2.2.1 | exact hX.1.1.2.2.2.1 | exact hX.1.1.2.2.2.2.1 | exact hX.1.1.2.2.2.2.2.1 | exact hX.1.1.2.2.2.2.2.2.1 | exact hX.1.1.2.2.2.2.2.2.2.1 | exact hX.1.1.2.2.2.2.2.2.2.2.1 | exact hX.1.1.2.2.2.2.2.2.2.2.2.1 | exact hX.1.1.2.2.2.2.2.2.2.2.2.2) rfl ?_
          refine V_topi F.2.2.2.2 hF.2.2.2 ?_
          refine V_iconstv 95 (1) dX6_tallies_95 (by decide) ?_
          refine V_iadd 96 dX6_tallies_96 ?_
          refine V_putM 97 dX6_tallies_97 fpX6_248 hM rfl rfl (fun h hM => ?_)
          refine V_vret 100 dX6_tallies_100 ?_
          refine k h _ hM ⟨rfl, rfl, rfl, rfl⟩ (fun j hj => ?_) rfl
          exact ((va_up_ne _ _ (by omega)).trans (va_up_ne _ _ (by omega))).trans ((va_up_ne _ _ (by omega)).trans (va_up_ne _ _ (by omega)))
        · have e_h : F.2.2.2.1 + 0 = F.2.2.2.1 + (if hdE E Q.1 = -1 then 0 else 1) := by rw [if_pos c_78]
          refine V_iconstv 81 (0) dX6_tallies_81 (by decide) ?_
          refine V_goto 82 86 dX6_tallies_82 rfl ?_
          refine V_iadd 86 dX6_tallies_86 ?_
          refine V_topi _ e_h ?_
          refine V_putM 87 dX6_tallies_87 fpX6_257 hM rfl rfl (fun h hM => ?_)
          refine V_aload_n 90 dX6_tallies_90 rfl ?_
          refine V_dupr 91 dX6_tallies_91 ?_
          refine V_get 92 dX6_tallies_92 fdX6_248 (by first | exact hM.1.1 | exact hM.1.2.1 | exact hM.1.2.2.1 | exact hM.1.2.2.2.1 | exact hM.1.2.2.2.2.1 | exact hM.1.2.2.2.2.2.1 | exact hM.1.2.2.2.2.2.2.1 | exact hM.1.2.2.2.2.2.2.2.1 | exact hM.1.2.2.2.2.2.2.2.2.1 | exact hM.1.2.2.2.2.2.2.2.2.2.1 | exact hM.1.2.2.2.2.2.2.2.2.2.2 | exact hX.1.1.1 | exact hX.1.1.2.1 | exact hX.1.1.2.2.1 | exact hX.1.1.2.2.2.1 | exact hX.1.1.2.2.2.2.1 | exact hX.1.1.2.2.2.2.2.1 | exact hX.1.1.2.2.2.2.2.2.1 | exact hX.1.1.2.2.2.2.2.2.2.1 | exact hX.1.1.2.2.2.2.2.2.2.2.1 | exact hX.1.1.2.2.2.2.2.2.2.2.2.1 | exact hX.1.1.2.2.2.2.2.2.2.2.2.2) rfl ?_
          refine V_topi F.2.2.2.2 hF.2.2.2 ?_
          refine V_iconstv 95 (1) dX6_tallies_95 (by decide) ?_
          refine V_iadd 96 dX6_tallies_96 ?_
          refine V_putM 97 dX6_tallies_97 fpX6_248 hM rfl rfl (fun h hM => ?_)
          refine V_vret 100 dX6_tallies_100 ?_
          refine k h _ hM ⟨rfl, rfl, rfl, rfl⟩ (fun j hj => ?_) rfl
          exact ((va_up_ne _ _ (by omega)).trans (va_up_ne _ _ (by omega))).trans ((va_up_ne _ _ (by omega)).trans (va_up_ne _ _ (by omega)))
end M40
