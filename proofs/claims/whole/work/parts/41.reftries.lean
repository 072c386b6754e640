/-- the search over the first links -/
def fdS (Q : RG) (c : Nat) (E : ET) (S : FT × (Nat → ET)) (i : Nat) : FT × (Nat → ET) := (List.range i).foldl (exS (exE Q c) Q c E) S
theorem fdS_0 (Q : RG) (c : Nat) (E : ET) (S : FT × (Nat → ET)) : fdS Q c E S 0 = S := by unfold fdS; rfl
theorem fdS_t {Q : RG} {c : Nat} {E : ET} {S : FT × (Nat → ET)} {i : Nat} (hb : bsy E (nI i) = true) : fdS Q c E S (i + 1) = exE Q c (dlE Q (eH' E (eH ((fdS Q c E S i).2 c))) (nI i)) ((fdS Q c E S i).1, va_up (fdS Q c E S i).2 c (dlE Q (eH' E (eH ((fdS Q c E S i).2 c))) (nI i))) := by
  unfold fdS
  rw [foldl_range_succ]
  generalize (List.range i).foldl (exS (exE Q c) Q c E) S = Y
  unfold exS
  rw [if_pos hb]
theorem fdS_f {Q : RG} {c : Nat} {E : ET} {S : FT × (Nat → ET)} {i : Nat} (hb : ¬ bsy E (nI i) = true) : fdS Q c E S (i + 1) = fdS Q c E S i := by
  unfold fdS
  rw [foldl_range_succ]
  generalize (List.range i).foldl (exS (exE Q c) Q c E) S = Y
  unfold exS
  rw [if_neg hb]
theorem fold_1 {Q : RG} {c : Nat} {E : ET} (S : FT × (Nat → ET)) : ∀ (i : Nat), (fdS Q c E S i).1.1 = S.1.1
  | 0 => by rw [fdS_0]
  | i + 1 => by
    by_cases hb : bsy E (nI i) = true
    · rw [fdS_t hb, exE_1]
      exact fold_1 S i
    · rw [fdS_f hb]
      exact fold_1 S i
theorem fold_x {Q : RG} {B c : Nat} {E : ET} (h : Inv Q B E) (S : FT × (Nat → ET)) : fdS Q c E S 12 = fdS Q c E S (2 * Q.1) := by
  have h6 := h.1
  have key : ∀ m, 2 * Q.1 ≤ m → m ≤ 12 → fdS Q c E S m = fdS Q c E S (2 * Q.1) := by
    intro m
    induction m with
    | zero => intro a _; rw [show 2 * Q.1 = 0 by omega]
    | succ m ih =>
      intro a b
      by_cases e : 2 * Q.1 = m + 1
      · rw [e]
      · rw [fdS_f (nb_hi h (by omega) (by omega))]
        exact ih (by omega) (by omega)
  exact key 12 (by omega) (Nat.le_refl _)
theorem exE_s {Q : RG} {c : Nat} {E : ET} {S : FT × (Nat → ET)} (e : ¬ eN E = 0) : exE Q (c + 1) E S = fdS Q c E S 12 := by
  rw [exE, if_neg e]
  unfold fdS
  rfl
theorem exE_e {Q : RG} {c : Nat} {E : ET} {S : FT × (Nat → ET)} (e : eN E = 0) : (exE Q (c + 1) E S).1 = noteF Q E S.1 := by
  rw [exE, if_pos e]
section M40
variable {B nx hs : Nat} {X : TX} {K : Nat → ET}
variable {l : Launch} {G : zGT} {h h0 : hpT} {sz : Nat} {Post : Option Value → hpT → Nat → Prop} {m r : Nat} {M M0 : MT} {Q : RG} {E : ET}
theorem zget_3 (a b c : Option Value) (l : List (Option Value)) (i : Nat) (v : Value) (h : zget [a, b, c] i = some v) : zget (a :: b :: c :: l) i = some v := by
  match i, h with
  | 0, h => exact h
  | 1, h => exact h
  | 2, h => exact h
  | i + 3, h => exact absurd h (by intro q; cases q)
theorem zget_6 (a b c d e f : Option Value) (l : List (Option Value)) (i : Nat) (v : Value) (h : zget [a, b, c, d, e, f] i = some v) : zget (a :: b :: c :: d :: e :: f :: l) i = some v := by
  match i, h with
  | 0, h => exact h
  | 1, h => exact h
  | 2, h => exact h
  | 3, h => exact h
  | 4, h => exact h
  | 5, h => exact h
  | i + 6, h => exact absurd h (by intro q; cases q)
set_option maxHeartbeats 1000000 in
set_option maxRecDepth 100000 in
theorem le_X6_tries (hM : WM G h0 h m M) (mo D : Nat) (hmo : mo ≤ 3) (hD : D ≤ mo) {sb : Int32} {F : FT} (hn : Q.1 ≤ 6) (hTB : TB Q sb M) (hTF : TF F M) (hF1 : F.1 = sb) (hRw : RowE (M.2.2.1 3) (21 + D) Q.1 E) (hend : D = mo ∨ eN E = 0) (k : ∀ h M1, WM G h0 h m M1 → FRM D M M1 → TF (noteF Q E F) M1 → V l G RX6 cX6_tries 7 none false 7 0 0 Post 16 [some (.ref m), some (.int (nI mo)), some (.int (nI D - 1))] [] h sz) : V l G RX6 cX6_tries 7 none false 7 0 0 Post 16 [some (.ref m), some (.int (nI mo)), some (.int (nI D))] [] h sz := by
  have hN := hRw.2.2.2.2.2.2
  refine V_iload_n 16 dX6_tries_16 rfl ?_
  refine V_if_lt 17 176 dX6_tries_17 rfl (fun q => absurd q (nI_pos (by omega))) (fun _ => ?_)
  refine V_bipushv 20 (21) dX6_tries_20 (by decide) ?_
  refine V_iload_n 22 dX6_tries_22 rfl ?_
  refine V_iadd 23 dX6_tries_23 ?_
  refine V_topi (nI (21 + D)) (nI_add 21 D) ?_
  refine V_istore_n 24 dX6_tries_24 rfl rfl ?_
  refine V_aload_n 25 dX6_tries_25 rfl ?_
  refine V_get 26 dX6_tries_26 fdX6_28 (by first | exact hM.1.1 | exact hM.1.2.1 | exact hM.1.2.2.1 | exact hM.1.2.2.2.1 | exact hM.1.2.2.2.2.1 | exact hM.1.2.2.2.2.2.1 | exact hM.1.2.2.2.2.2.2.1 | exact hM.1.2.2.2.2.2.2.2.1 | exact hM.1.2.2.2.2.2.2.2.2.1 | exact hM.1.2.2.2.2.2.2.2.2.2.1 | exact hM.1.2.2.2.2.2.2.2.2.2.2 | exact hX.1.1.1 | exact hX.1.1.2.1 | exact hX.1.1.2.2.1 | exact hX.1.1.2.2.2.1 | exact hX.1.1.2.2.2.2.1 | exact hX.1.1.2.2.2.2.2.1 | exact hX.1.1.2.2.2.2.2.2.1 | exact hX.1.1.2.2.2.2.2.2.2.1 | exact hX.1.1.2.2.2.2.2.2.2.2.1 | exact hX.1.1.2.2.2.2.2.2.2.2.2.1 | exact hX.1.1.2.2.2.2.2.2.2.2.2.2) rfl ?_
  refine V_iload_n 29 dX6_tries_29 rfl ?_
  refine V_ialdk 30 D (nI_clamp (by omega)) dX6_tries_30 (by first | exact hM.1.1 | exact hM.1.2.1 | exact hM.1.2.2.1 | exact hM.1.2.2.2.1 | exact hM.1.2.2.2.2.1 | exact hM.1.2.2.2.2.2.1 | exact hM.1.2.2.2.2.2.2.1 | exact hM.1.2.2.2.2.2.2.2.1 | exact hM.1.2.2.2.2.2.2.2.2.1 | exact hM.1.2.2.2.2.2.2.2.2.2.1 | exact hM.1.2.2.2.2.2.2.2.2.2.2 | exact hX.1.1.1 | exact hX.1.1.2.1 | exact hX.1.1.2.2.1 | exact hX.1.1.2.2.2.1 | exact hX.1.1.2.2.2.2.1 | exact hX.1.1.2.2.2.2.2.1 | exact hX.1.1.2.2.2.2.2.2.1 | exact hX.1.1.2.2.2.2.2.2.2.1 | exact hX.1.1.2.2.2.2.2.2.2.2.1 | exact hX.1.1.2.2.2.2.2.2.2.2.2.1 | exact hX.1.1.2.2.2.2.2.2.2.2.2.2) (vp_in_nI (by omega) (by decide)) ?_
  refine V_istore 31 dX6_tries_31 rfl rfl ?_
  refine V_iload_n 33 dX6_tries_33 rfl ?_
  refine V_iload_n 34 dX6_tries_34 rfl ?_
  refine V_icmp_eq 35 53 dX6_tries_35 rfl (fun c_35 => ?_) (fun c_35 => ?_)
  · refine V_iconstv 53 (1) dX6_tries_53 (by decide) ?_
    refine V_goto 54 58 dX6_tries_54 rfl ?_
    refine V_istore 58 dX6_tries_58 rfl rfl ?_
    refine V_iload 60 dX6_tries_60 rfl ?_
    refine V_if_eq 62 70 dX6_tries_62 rfl (fun q => absurd q (by decide)) (fun _ => ?_)
    refine V_aload_n 65 dX6_tries_65 rfl ?_
    refine V_iload_n 66 dX6_tries_66 rfl ?_
    refine V_iv1 67 dX6_tries_67 kvX6_260 rfl (by first | exact hM.1.1 | exact hM.1.2.1 | exact hM.1.2.2.1 | exact hM.1.2.2.2.1 | exact hM.1.2.2.2.2.1 | exact hM.1.2.2.2.2.2.1 | exact hM.1.2.2.2.2.2.2.1 | exact hM.1.2.2.2.2.2.2.2.1 | exact hM.1.2.2.2.2.2.2.2.2.1 | exact hM.1.2.2.2.2.2.2.2.2.2.1 | exact hM.1.2.2.2.2.2.2.2.2.2.2 | exact hX.1.1.1 | exact hX.1.1.2.1 | exact hX.1.1.2.2.1 | exact hX.1.1.2.2.2.1 | exact hX.1.1.2.2.2.2.1 | exact hX.1.1.2.2.2.2.2.1 | exact hX.1.1.2.2.2.2.2.2.1 | exact hX.1.1.2.2.2.2.2.2.2.1 | exact hX.1.1.2.2.2.2.2.2.2.2.1 | exact hX.1.1.2.2.2.2.2.2.2.2.2.1 | exact hX.1.1.2.2.2.2.2.2.2.2.2.2) rfl rfl (c_X6_tallies (⟨hM, MF.rf, hTB.1, hTB.2.1, hRw, by omega, hn⟩ : WX G h0 h m M M (21 + D) E Q) (by omega) hTF (hTB.2.2.trans hF1.symm) (fun h M1 hM hTF1 hI1 hS1 => ?_))
    refine V_iload 70 dX6_tries_70 rfl ?_
    refine V_if_ne 72 102 dX6_tries_72 rfl (fun _ => ?_) (fun q => absurd q (by decide))
    refine V_iload 102 dX6_tries_102 rfl ?_
    refine V_if_ne 104 118 dX6_tries_104 rfl (fun _ => ?_) (fun q => absurd q (by decide))
    refine V_iinc 118 (nI D - 1) dX6_tries_118 rfl (i32_dec _) rfl rfl ?_
    refine V_goto 121 173 dX6_tries_121 rfl ?_
    refine V_goto 173 16 dX6_tries_173 rfl ?_
    refine V_lvw (zget_3 _ _ _ _) ?_
    refine k h M1 hM ⟨fun j hj => hI1 j (by omega), by rw [hS1], fun _ _ _ => by rw [hS1], by rw [hS1], fun _ _ => by rw [hS1], fun _ _ => by rw [hS1]⟩ hTF1
  · have dne : ¬ D = mo := fun q => c_35 (by rw [q])
    have e0 := hend.resolve_left dne
    refine V_aload_n 38 dX6_tries_38 rfl ?_
    refine V_get 39 dX6_tries_39 fdX6_16 (by first | exact hM.1.1 | exact hM.1.2.1 | exact hM.1.2.2.1 | exact hM.1.2.2.2.1 | exact hM.1.2.2.2.2.1 | exact hM.1.2.2.2.2.2.1 | exact hM.1.2.2.2.2.2.2.1 | exact hM.1.2.2.2.2.2.2.2.1 | exact hM.1.2.2.2.2.2.2.2.2.1 | exact hM.1.2.2.2.2.2.2.2.2.2.1 | exact hM.1.2.2.2.2.2.2.2.2.2.2 | exact hX.1.1.1 | exact hX.1.1.2.1 | exact hX.1.1.2.2.1 | exact hX.1.1.2.2.2.1 | exact hX.1.1.2.2.2.2.1 | exact hX.1.1.2.2.2.2.2.1 | exact hX.1.1.2.2.2.2.2.2.1 | exact hX.1.1.2.2.2.2.2.2.2.1 | exact hX.1.1.2.2.2.2.2.2.2.2.1 | exact hX.1.1.2.2.2.2.2.2.2.2.2.1 | exact hX.1.1.2.2.2.2.2.2.2.2.2.2) rfl ?_
    refine V_sipushv 42 (168) dX6_tries_42 (by decide) ?_
    refine V_iload_n 45 dX6_tries_45 rfl ?_
    refine V_imul 46 dX6_tries_46 ?_
    refine V_topi (nI (168 * (21 + D))) (pk_mul 168 (21 + D)) ?_
    refine V_iconstv 47 (2) dX6_tries_47 (by decide) ?_
    refine V_iadd 48 dX6_tries_48 ?_
    refine V_topi (nI (168 * (21 + D) + 2)) (nI_add _ 2) ?_
    refine V_ialdk 49 (168 * (21 + D) + 2) (nI_clamp (by omega)) dX6_tries_49 (by first | exact hM.1.1 | exact hM.1.2.1 | exact hM.1.2.2.1 | exact hM.1.2.2.2.1 | exact hM.1.2.2.2.2.1 | exact hM.1.2.2.2.2.2.1 | exact hM.1.2.2.2.2.2.2.1 | exact hM.1.2.2.2.2.2.2.2.1 | exact hM.1.2.2.2.2.2.2.2.2.1 | exact hM.1.2.2.2.2.2.2.2.2.2.1 | exact hM.1.2.2.2.2.2.2.2.2.2.2 | exact hX.1.1.1 | exact hX.1.1.2.1 | exact hX.1.1.2.2.1 | exact hX.1.1.2.2.2.1 | exact hX.1.1.2.2.2.2.1 | exact hX.1.1.2.2.2.2.2.1 | exact hX.1.1.2.2.2.2.2.2.1 | exact hX.1.1.2.2.2.2.2.2.2.1 | exact hX.1.1.2.2.2.2.2.2.2.2.1 | exact hX.1.1.2.2.2.2.2.2.2.2.2.1 | exact hX.1.1.2.2.2.2.2.2.2.2.2.2) (vp_in_nI (by omega) (by decide)) ?_
    refine V_topi (nI (eN E)) hRw.2.2.1 ?_
    refine V_if_ne 50 57 dX6_tries_50 rfl (fun q => absurd (nI_z e0) q) (fun _ => ?_)
    refine V_iconstv 53 (1) dX6_tries_53 (by decide) ?_
    refine V_goto 54 58 dX6_tries_54 rfl ?_
    refine V_istore 58 dX6_tries_58 rfl rfl ?_
    refine V_iload 60 dX6_tries_60 rfl ?_
    refine V_if_eq 62 70 dX6_tries_62 rfl (fun q => absurd q (by decide)) (fun _ => ?_)
    refine V_aload_n 65 dX6_tries_65 rfl ?_
    refine V_iload_n 66 dX6_tries_66 rfl ?_
    refine V_iv1 67 dX6_tries_67 kvX6_260 rfl (by first | exact hM.1.1 | exact hM.1.2.1 | exact hM.1.2.2.1 | exact hM.1.2.2.2.1 | exact hM.1.2.2.2.2.1 | exact hM.1.2.2.2.2.2.1 | exact hM.1.2.2.2.2.2.2.1 | exact hM.1.2.2.2.2.2.2.2.1 | exact hM.1.2.2.2.2.2.2.2.2.1 | exact hM.1.2.2.2.2.2.2.2.2.2.1 | exact hM.1.2.2.2.2.2.2.2.2.2.2 | exact hX.1.1.1 | exact hX.1.1.2.1 | exact hX.1.1.2.2.1 | exact hX.1.1.2.2.2.1 | exact hX.1.1.2.2.2.2.1 | exact hX.1.1.2.2.2.2.2.1 | exact hX.1.1.2.2.2.2.2.2.1 | exact hX.1.1.2.2.2.2.2.2.2.1 | exact hX.1.1.2.2.2.2.2.2.2.2.1 | exact hX.1.1.2.2.2.2.2.2.2.2.2.1 | exact hX.1.1.2.2.2.2.2.2.2.2.2.2) rfl rfl (c_X6_tallies (⟨hM, MF.rf, hTB.1, hTB.2.1, hRw, by omega, hn⟩ : WX G h0 h m M M (21 + D) E Q) (by omega) hTF (hTB.2.2.trans hF1.symm) (fun h M1 hM hTF1 hI1 hS1 => ?_))
    refine V_iload 70 dX6_tries_70 rfl ?_
    refine V_if_ne 72 102 dX6_tries_72 rfl (fun _ => ?_) (fun q => absurd q (by decide))
    refine V_iload 102 dX6_tries_102 rfl ?_
    refine V_if_ne 104 118 dX6_tries_104 rfl (fun _ => ?_) (fun q => absurd q (by decide))
    refine V_iinc 118 (nI D - 1) dX6_tries_118 rfl (i32_dec _) rfl rfl ?_
    refine V_goto 121 173 dX6_tries_121 rfl ?_
    refine V_goto 173 16 dX6_tries_173 rfl ?_
    refine V_lvw (zget_3 _ _ _ _) ?_
    refine k h M1 hM ⟨fun j hj => hI1 j (by omega), by rw [hS1], fun _ _ _ => by rw [hS1], by rw [hS1], fun _ _ => by rw [hS1], fun _ _ => by rw [hS1]⟩ hTF1
set_option maxHeartbeats 1000000 in
set_option maxRecDepth 100000 in
theorem lh_X6_tries (hM : WM G h0 h m M) (mo D i : Nat) (hmo : mo ≤ 3) (hD : D ≤ mo) (hne : ¬ D = mo) (hRw : RowE (M.2.2.1 3) (21 + D) Q.1 E) (hN0 : ¬ eN E = 0) (h7 : M.2.2.1 7 D = nI i) (k : V l G RX6 cX6_tries 7 none false 7 0 0 Post 70 [some (.ref m), some (.int (nI mo)), some (.int (nI D)), some (.int (nI (21 + D))), some (.int (nI i)), some (.int 0)] [] h sz) : V l G RX6 cX6_tries 7 none false 7 0 0 Post 16 [some (.ref m), some (.int (nI mo)), some (.int (nI D))] [] h sz := by
  have hN := hRw.2.2.2.2.2.2
  refine V_iload_n 16 dX6_tries_16 rfl ?_
  refine V_if_lt 17 176 dX6_tries_17 rfl (fun q => absurd q (nI_pos (by omega))) (fun _ => ?_)
  refine V_bipushv 20 (21) dX6_tries_20 (by decide) ?_
  refine V_iload_n 22 dX6_tries_22 rfl ?_
  refine V_iadd 23 dX6_tries_23 ?_
  refine V_topi (nI (21 + D)) (nI_add 21 D) ?_
  refine V_istore_n 24 dX6_tries_24 rfl rfl ?_
  refine V_aload_n 25 dX6_tries_25 rfl ?_
  refine V_get 26 dX6_tries_26 fdX6_28 (by first | exact hM.1.1 | exact hM.1.2.1 | exact hM.1.2.2.1 | exact hM.1.2.2.2.1 | exact hM.1.2.2.2.2.1 | exact hM.1.2.2.2.2.2.1 | exact hM.1.2.2.2.2.2.2.1 | exact hM.1.2.2.2.2.2.2.2.1 | exact hM.1.2.2.2.2.2.2.2.2.1 | exact hM.1.2.2.2.2.2.2.2.2.2.1 | exact hM.1.2.2.2.2.2.2.2.2.2.2 | exact hX.1.1.1 | exact hX.1.1.2.1 | exact hX.1.1.2.2.1 | exact hX.1.1.2.2.2.1 | exact hX.1.1.2.2.2.2.1 | exact hX.1.1.2.2.2.2.2.1 | exact hX.1.1.2.2.2.2.2.2.1 | exact hX.1.1.2.2.2.2.2.2.2.1 | exact hX.1.1.2.2.2.2.2.2.2.2.1 | exact hX.1.1.2.2.2.2.2.2.2.2.2.1 | exact hX.1.1.2.2.2.2.2.2.2.2.2.2) rfl ?_
  refine V_iload_n 29 dX6_tries_29 rfl ?_
  refine V_ialdk 30 D (nI_clamp (by omega)) dX6_tries_30 (by first | exact hM.1.1 | exact hM.1.2.1 | exact hM.1.2.2.1 | exact hM.1.2.2.2.1 | exact hM.1.2.2.2.2.1 | exact hM.1.2.2.2.2.2.1 | exact hM.1.2.2.2.2.2.2.1 | exact hM.1.2.2.2.2.2.2.2.1 | exact hM.1.2.2.2.2.2.2.2.2.1 | exact hM.1.2.2.2.2.2.2.2.2.2.1 | exact hM.1.2.2.2.2.2.2.2.2.2.2 | exact hX.1.1.1 | exact hX.1.1.2.1 | exact hX.1.1.2.2.1 | exact hX.1.1.2.2.2.1 | exact hX.1.1.2.2.2.2.1 | exact hX.1.1.2.2.2.2.2.1 | exact hX.1.1.2.2.2.2.2.2.1 | exact hX.1.1.2.2.2.2.2.2.2.1 | exact hX.1.1.2.2.2.2.2.2.2.2.1 | exact hX.1.1.2.2.2.2.2.2.2.2.2.1 | exact hX.1.1.2.2.2.2.2.2.2.2.2.2) (vp_in_nI (by omega) (by decide)) ?_
  refine V_topi (nI i) h7 ?_
  refine V_istore 31 dX6_tries_31 rfl rfl ?_
  refine V_iload_n 33 dX6_tries_33 rfl ?_
  refine V_iload_n 34 dX6_tries_34 rfl ?_
  refine V_icmp_eq 35 53 dX6_tries_35 rfl (fun q => absurd ((nI_eq (by omega) (by omega)).mp q) hne) (fun _ => ?_)
  refine V_aload_n 38 dX6_tries_38 rfl ?_
  refine V_get 39 dX6_tries_39 fdX6_16 (by first | exact hM.1.1 | exact hM.1.2.1 | exact hM.1.2.2.1 | exact hM.1.2.2.2.1 | exact hM.1.2.2.2.2.1 | exact hM.1.2.2.2.2.2.1 | exact hM.1.2.2.2.2.2.2.1 | exact hM.1.2.2.2.2.2.2.2.1 | exact hM.1.2.2.2.2.2.2.2.2.1 | exact hM.1.2.2.2.2.2.2.2.2.2.1 | exact hM.1.2.2.2.2.2.2.2.2.2.2 | exact hX.1.1.1 | exact hX.1.1.2.1 | exact hX.1.1.2.2.1 | exact hX.1.1.2.2.2.1 | exact hX.1.1.2.2.2.2.1 | exact hX.1.1.2.2.2.2.2.1 | exact hX.1.1.2.2.2.2.2.2.1 | exact hX.1.1.2.2.2.2.2.2.2.1 | exact hX.1.1.2.2.2.2.2.2.2.2.1 | exact hX.1.1.2.2.2.2.2.2.2.2.2.1 | exact hX.1.1.2.2.2.2.2.2.2.2.2.2) rfl ?_
  refine V_sipushv 42 (168) dX6_tries_42 (by decide) ?_
  refine V_iload_n 45 dX6_tries_45 rfl ?_
  refine V_imul 46 dX6_tries_46 ?_
  refine V_topi (nI (168 * (21 + D))) (pk_mul 168 (21 + D)) ?_
  refine V_iconstv 47 (2) dX6_tries_47 (by decide) ?_
  refine V_iadd 48 dX6_tries_48 ?_
  refine V_topi (nI (168 * (21 + D) + 2)) (nI_add _ 2) ?_
  refine V_ialdk 49 (168 * (21 + D) + 2) (nI_clamp (by omega)) dX6_tries_49 (by first | exact hM.1.1 | exact hM.1.2.1 | exact hM.1.2.2.1 | exact hM.1.2.2.2.1 | exact hM.1.2.2.2.2.1 | exact hM.1.2.2.2.2.2.1 | exact hM.1.2.2.2.2.2.2.1 | exact hM.1.2.2.2.2.2.2.2.1 | exact hM.1.2.2.2.2.2.2.2.2.1 | exact hM.1.2.2.2.2.2.2.2.2.2.1 | exact hM.1.2.2.2.2.2.2.2.2.2.2 | exact hX.1.1.1 | exact hX.1.1.2.1 | exact hX.1.1.2.2.1 | exact hX.1.1.2.2.2.1 | exact hX.1.1.2.2.2.2.1 | exact hX.1.1.2.2.2.2.2.1 | exact hX.1.1.2.2.2.2.2.2.1 | exact hX.1.1.2.2.2.2.2.2.2.1 | exact hX.1.1.2.2.2.2.2.2.2.2.1 | exact hX.1.1.2.2.2.2.2.2.2.2.2.1 | exact hX.1.1.2.2.2.2.2.2.2.2.2.2) (vp_in_nI (by omega) (by decide)) ?_
  refine V_topi (nI (eN E)) hRw.2.2.1 ?_
  refine V_if_ne 50 57 dX6_tries_50 rfl (fun _ => ?_) (fun q => absurd q (nI_ne0 (Nat.pos_of_ne_zero hN0) (by omega)))
  refine V_iconstv 57 (0) dX6_tries_57 (by decide) ?_
  refine V_istore 58 dX6_tries_58 rfl rfl ?_
  refine V_iload 60 dX6_tries_60 rfl ?_
  refine V_if_eq 62 70 dX6_tries_62 rfl (fun _ => ?_) (fun q => absurd q (by decide))
  exact k
set_option maxHeartbeats 1000000 in
set_option maxRecDepth 100000 in
theorem l2_X6_tries (hM : WM G h0 h m M) (mo D i : Nat) {sb : Int32} (hTB : TB Q sb M) (e_8 : i = 2 * Q.1) (k : V l G RX6 cX6_tries 7 none false 7 0 0 Post 16 [some (.ref m), some (.int (nI mo)), some (.int (nI D - 1))] [] h sz) : V l G RX6 cX6_tries 7 none false 7 0 0 Post 102 [some (.ref m), some (.int (nI mo)), some (.int (nI D)), some (.int (nI (21 + D))), some (.int (nI i)), some (.int 0)] [] h sz := by
  refine V_iload 102 dX6_tries_102 rfl ?_
  refine V_if_ne 104 118 dX6_tries_104 rfl (fun q => absurd rfl q) (fun _ => ?_)
  refine V_iload 107 dX6_tries_107 rfl ?_
  refine V_iconstv 109 (2) dX6_tries_109 (by decide) ?_
  refine V_aload_n 110 dX6_tries_110 rfl ?_
  refine V_get 111 dX6_tries_111 fdX6_41 (by first | exact hM.1.1 | exact hM.1.2.1 | exact hM.1.2.2.1 | exact hM.1.2.2.2.1 | exact hM.1.2.2.2.2.1 | exact hM.1.2.2.2.2.2.1 | exact hM.1.2.2.2.2.2.2.1 | exact hM.1.2.2.2.2.2.2.2.1 | exact hM.1.2.2.2.2.2.2.2.2.1 | exact hM.1.2.2.2.2.2.2.2.2.2.1 | exact hM.1.2.2.2.2.2.2.2.2.2.2) rfl ?_
  refine V_imul 114 dX6_tries_114 ?_
  refine V_topi (nI (2 * Q.1)) (by rw [hTB.1]; exact pk_mul 2 Q.1) ?_
  refine V_icmp_ne 115 124 dX6_tries_115 rfl (fun q => absurd (by rw [e_8]) q) (fun _ => ?_)
  refine V_iinc 118 (nI D - 1) dX6_tries_118 rfl (i32_dec _) rfl rfl ?_
  refine V_goto 121 173 dX6_tries_121 rfl ?_
  refine V_goto 173 16 dX6_tries_173 rfl ?_
  exact V_lvw (zget_3 _ _ _ _) k
set_option maxHeartbeats 1000000 in
set_option maxRecDepth 100000 in
theorem l3_X6_tries (hM : WM G h0 h m M) (mo D i : Nat) (hmo : mo ≤ 3) (hD : D + 1 ≤ mo) {sb : Int32} (hn : Q.1 ≤ 6) (hTB : TB Q sb M) (hRw : RowE (M.2.2.1 3) (21 + D) Q.1 E) (e_9 : i < 2 * Q.1) (hb : bsy E (nI i) = true) (hdel : DelOK Q E i) (k : ∀ h M1, WM G h0 h m M1 → FRM D M M1 → M1.2.2.1 7 D = nI (i + 1) → M1.2.2.1 7 (D + 1) = 0 → (∀ q, q < 168 * (22 + D) → M1.2.2.1 3 q = M.2.2.1 3 q) → (∀ j, 23 ≤ j → M1.1 j = M.1 j) → RowE (M1.2.2.1 3) (21 + D + 1) Q.1 (dlE Q E (nI i)) → V l G RX6 cX6_tries 7 none false 7 0 0 Post 16 [some (.ref m), some (.int (nI mo)), some (.int (nI (D + 1)))] [] h sz) : V l G RX6 cX6_tries 7 none false 7 0 0 Post 102 [some (.ref m), some (.int (nI mo)), some (.int (nI D)), some (.int (nI (21 + D))), some (.int (nI i)), some (.int 0)] [] h sz := by
  refine V_iload 102 dX6_tries_102 rfl ?_
  refine V_if_ne 104 118 dX6_tries_104 rfl (fun q => absurd rfl q) (fun _ => ?_)
  refine V_iload 107 dX6_tries_107 rfl ?_
  refine V_iconstv 109 (2) dX6_tries_109 (by decide) ?_
  refine V_aload_n 110 dX6_tries_110 rfl ?_
  refine V_get 111 dX6_tries_111 fdX6_41 (by first | exact hM.1.1 | exact hM.1.2.1 | exact hM.1.2.2.1 | exact hM.1.2.2.2.1 | exact hM.1.2.2.2.2.1 | exact hM.1.2.2.2.2.2.1 | exact hM.1.2.2.2.2.2.2.1 | exact hM.1.2.2.2.2.2.2.2.1 | exact hM.1.2.2.2.2.2.2.2.2.1 | exact hM.1.2.2.2.2.2.2.2.2.2.1 | exact hM.1.2.2.2.2.2.2.2.2.2.2 | exact hX.1.1.1 | exact hX.1.1.2.1 | exact hX.1.1.2.2.1 | exact hX.1.1.2.2.2.1 | exact hX.1.1.2.2.2.2.1 | exact hX.1.1.2.2.2.2.2.1 | exact hX.1.1.2.2.2.2.2.2.1 | exact hX.1.1.2.2.2.2.2.2.2.1 | exact hX.1.1.2.2.2.2.2.2.2.2.1 | exact hX.1.1.2.2.2.2.2.2.2.2.2.1 | exact hX.1.1.2.2.2.2.2.2.2.2.2.2) rfl ?_
  refine V_imul 114 dX6_tries_114 ?_
  refine V_topi (nI (2 * Q.1)) (by rw [hTB.1]; exact pk_mul 2 Q.1) ?_
  refine V_icmp_ne 115 124 dX6_tries_115 rfl (fun _ => ?_) (fun q => absurd ((nI_eq (by omega) (by omega)).mp q) (by omega))
  refine V_aload_n 124 dX6_tries_124 rfl ?_
  refine V_get 125 dX6_tries_125 fdX6_28 (by first | exact hM.1.1 | exact hM.1.2.1 | exact hM.1.2.2.1 | exact hM.1.2.2.2.1 | exact hM.1.2.2.2.2.1 | exact hM.1.2.2.2.2.2.1 | exact hM.1.2.2.2.2.2.2.1 | exact hM.1.2.2.2.2.2.2.2.1 | exact hM.1.2.2.2.2.2.2.2.2.1 | exact hM.1.2.2.2.2.2.2.2.2.2.1 | exact hM.1.2.2.2.2.2.2.2.2.2.2 | exact hX.1.1.1 | exact hX.1.1.2.1 | exact hX.1.1.2.2.1 | exact hX.1.1.2.2.2.1 | exact hX.1.1.2.2.2.2.1 | exact hX.1.1.2.2.2.2.2.1 | exact hX.1.1.2.2.2.2.2.2.1 | exact hX.1.1.2.2.2.2.2.2.2.1 | exact hX.1.1.2.2.2.2.2.2.2.2.1 | exact hX.1.1.2.2.2.2.2.2.2.2.2.1 | exact hX.1.1.2.2.2.2.2.2.2.2.2.2) rfl ?_
  refine V_iload_n 128 dX6_tries_128 rfl ?_
  refine V_iload 129 dX6_tries_129 rfl ?_
  refine V_iconstv 131 (1) dX6_tries_131 (by decide) ?_
  refine V_iadd 132 dX6_tries_132 ?_
  refine V_topi (nI (i + 1)) (nI_1 i) ?_
  refine V_ia7 133 D (nI_clamp (by omega)) dX6_tries_133 hM (vp_in_nI (by omega) (by decide)) (fun h hM => ?_)
  refine V_aload_n 134 dX6_tries_134 rfl ?_
  refine V_iload_n 135 dX6_tries_135 rfl ?_
  refine V_iload_n 136 dX6_tries_136 rfl ?_
  refine V_iconstv 137 (1) dX6_tries_137 (by decide) ?_
  refine V_iadd 138 dX6_tries_138 ?_
  refine V_topi (nI (21 + D + 1)) (nI_1 _) ?_
  refine V_iv2 139 dX6_tries_139 kvX6_156 rfl (by first | exact hM.1.1 | exact hM.1.2.1 | exact hM.1.2.2.1 | exact hM.1.2.2.2.1 | exact hM.1.2.2.2.2.1 | exact hM.1.2.2.2.2.2.1 | exact hM.1.2.2.2.2.2.2.1 | exact hM.1.2.2.2.2.2.2.2.1 | exact hM.1.2.2.2.2.2.2.2.2.1 | exact hM.1.2.2.2.2.2.2.2.2.2.1 | exact hM.1.2.2.2.2.2.2.2.2.2.2 | exact hX.1.1.1 | exact hX.1.1.2.1 | exact hX.1.1.2.2.1 | exact hX.1.1.2.2.2.1 | exact hX.1.1.2.2.2.2.1 | exact hX.1.1.2.2.2.2.2.1 | exact hX.1.1.2.2.2.2.2.2.1 | exact hX.1.1.2.2.2.2.2.2.2.1 | exact hX.1.1.2.2.2.2.2.2.2.2.1 | exact hX.1.1.2.2.2.2.2.2.2.2.2.1 | exact hX.1.1.2.2.2.2.2.2.2.2.2.2) rfl rfl (c_X6_copies hM (21 + D) (21 + D + 1) (by omega) (by omega) (by omega) (fun h hM => ?_))
  have hX : WX G h0 h m _ _ (21 + D + 1) E Q := ⟨hM, MF.rf, hTB.1, hTB.2.1, RowE.cp (a := 21 + D) (r := 21 + D + 1) (E := E) hRw hn, by omega, hn⟩
  refine V_aload_n 142 dX6_tries_142 rfl ?_
  refine V_iload_n 143 dX6_tries_143 rfl ?_
  refine V_iconstv 144 (1) dX6_tries_144 (by decide) ?_
  refine V_iadd 145 dX6_tries_145 ?_
  refine V_topi (nI (21 + D + 1)) (nI_1 _) ?_
  refine V_iload 146 dX6_tries_146 rfl ?_
  refine V_iv2 148 dX6_tries_148 kvX6_150 rfl (by first | exact hM.1.1 | exact hM.1.2.1 | exact hM.1.2.2.1 | exact hM.1.2.2.2.1 | exact hM.1.2.2.2.2.1 | exact hM.1.2.2.2.2.2.1 | exact hM.1.2.2.2.2.2.2.1 | exact hM.1.2.2.2.2.2.2.2.1 | exact hM.1.2.2.2.2.2.2.2.2.1 | exact hM.1.2.2.2.2.2.2.2.2.2.1 | exact hM.1.2.2.2.2.2.2.2.2.2.2 | exact hX.1.1.1 | exact hX.1.1.2.1 | exact hX.1.1.2.2.1 | exact hX.1.1.2.2.2.1 | exact hX.1.1.2.2.2.2.1 | exact hX.1.1.2.2.2.2.2.1 | exact hX.1.1.2.2.2.2.2.2.1 | exact hX.1.1.2.2.2.2.2.2.2.1 | exact hX.1.1.2.2.2.2.2.2.2.2.1 | exact hX.1.1.2.2.2.2.2.2.2.2.2.1 | exact hX.1.1.2.2.2.2.2.2.2.2.2.2) rfl rfl (c_X6_delivers hX i e_9 hb hdel (fun h M3 hX => ?_))
  obtain ⟨κ, hκ, hkd, -⟩ := hdel
  refine V_topi (nI κ) hkd ?_
  refine V_istore 151 dX6_tries_151 rfl rfl ?_
  refine V_iload_n 153 dX6_tries_153 rfl ?_
  refine V_iload 154 dX6_tries_154 rfl ?_
  refine V_if_le 156 163 dX6_tries_156 rfl (fun q => absurd q (nI_nle (by omega) (by omega))) (fun _ => ?_)
  refine V_iconstv 159 (1) dX6_tries_159 (by decide) ?_
  refine V_goto 160 164 dX6_tries_160 rfl ?_
  refine V_iadd 164 dX6_tries_164 ?_
  refine V_topi (nI (D + 1)) (nI_1 D) ?_
  refine V_istore_n 165 dX6_tries_165 rfl rfl ?_
  refine V_aload_n 166 dX6_tries_166 rfl ?_
  refine V_get 167 dX6_tries_167 fdX6_28 (by first | exact hM.1.1 | exact hM.1.2.1 | exact hM.1.2.2.1 | exact hM.1.2.2.2.1 | exact hM.1.2.2.2.2.1 | exact hM.1.2.2.2.2.2.1 | exact hM.1.2.2.2.2.2.2.1 | exact hM.1.2.2.2.2.2.2.2.1 | exact hM.1.2.2.2.2.2.2.2.2.1 | exact hM.1.2.2.2.2.2.2.2.2.2.1 | exact hM.1.2.2.2.2.2.2.2.2.2.2 | exact hX.1.1.1 | exact hX.1.1.2.1 | exact hX.1.1.2.2.1 | exact hX.1.1.2.2.2.1 | exact hX.1.1.2.2.2.2.1 | exact hX.1.1.2.2.2.2.2.1 | exact hX.1.1.2.2.2.2.2.2.1 | exact hX.1.1.2.2.2.2.2.2.2.1 | exact hX.1.1.2.2.2.2.2.2.2.2.1 | exact hX.1.1.2.2.2.2.2.2.2.2.2.1 | exact hX.1.1.2.2.2.2.2.2.2.2.2.2) rfl ?_
  refine V_iload_n 170 dX6_tries_170 rfl ?_
  refine V_iconstv 171 (0) dX6_tries_171 (by decide) ?_
  refine V_ia7 172 (D + 1) (nI_clamp (by omega)) dX6_tries_172 hX.1 (vp_in_nI (by omega) (by decide)) (fun h hM => ?_)
  refine V_goto 173 16 dX6_tries_173 rfl ?_
  refine V_lvw (zget_3 _ _ _ _) ?_
  have g1 : FRM D M (mJ M 7 (upd (M.2.2.1 7) D (nI (i + 1)))) := FRM.n1 (Nat.le_refl _)
  have g2 : FRM (D + 1) (mJ M 7 (upd (M.2.2.1 7) D (nI (i + 1)))) M3 := (FRM.mf (r := 21 + D + 1) (by omega) (MF.cp (a := 21 + D))).tr (Nat.le_refl _) (FRM.mf (by omega) hX.2.1)
  have g3 : FRM (D + 1) M3 (mJ M3 7 (upd (M3.2.2.1 7) (D + 1) 0)) := FRM.n1 (Nat.le_refl _)
  have g4 := g2.tr (Nat.le_refl _) g3
  exact k h _ hM (g1.tr (by omega) g4) ((g4.2.2.2.2.2 D (by omega)).trans pk_us) pk_us (fun q hq => g4.2.2.2.2.1 q (by omega)) (fun j hj => hX.2.1.1 j (by omega)) hX.2.2.2.2.1
set_option maxHeartbeats 1000000 in
set_option maxRecDepth 100000 in
theorem li_X6_tries (mo c : Nat) (hmo : mo ≤ 3) (hB : B < 2 ^ 28) {sb : Int32} (hn : Q.1 ≤ 6) (IH : ∀ D, D + c = mo → ∀ (E : ET) (S : FT × (Nat → ET)) (M : MT) (h : hpT), WM G h0 h m M → Inv Q (B + 3 - c) E → TB Q sb M → TF S.1 M → S.1.1 = sb → RowE (M.2.2.1 3) (21 + D) Q.1 E → M.2.2.1 7 D = 0 → (∀ h M1, WM G h0 h m M1 → FRM D M M1 → TF (exE Q c E S).1 M1 → V l G RX6 cX6_tries 7 none false 7 0 0 Post 16 [some (.ref m), some (.int (nI mo)), some (.int (nI D - 1))] [] h sz) → V l G RX6 cX6_tries 7 none false 7 0 0 Post 16 [some (.ref m), some (.int (nI mo)), some (.int (nI D))] [] h sz) (D : Nat) (hD : D + (c + 1) = mo) {S : FT × (Nat → ET)} (hInv : Inv Q (B + 3 - (c + 1)) E) (hN0 : ¬ eN E = 0) (hS1 : S.1.1 = sb) (k : ∀ h M1, WM G h0 h m M1 → FRM D M0 M1 → TF (fdS Q c E S 12).1 M1 → V l G RX6 cX6_tries 7 none false 7 0 0 Post 16 [some (.ref m), some (.int (nI mo)), some (.int (nI D - 1))] [] h sz) : ∀ i, i ≤ 2 * Q.1 → ∀ (h : hpT) (M : MT), WM G h0 h m M → FRM D M0 M → TB Q sb M → TF (fdS Q c E S i).1 M → RowE (M.2.2.1 3) (21 + D) Q.1 E → V l G RX6 cX6_tries 7 none false 7 0 0 Post 70 [some (.ref m), some (.int (nI mo)), some (.int (nI D)), some (.int (nI (21 + D))), some (.int (nI i)), some (.int 0)] [] h sz := by
  refine up_ind (2 * Q.1) (fun i hi ih h M hM hFR hTB hTF hRw => ?_)
  have hN := hRw.2.2.2.2.2.2
  have kE : i = 2 * Q.1 → V l G RX6 cX6_tries 7 none false 7 0 0 Post 102 [some (.ref m), some (.int (nI mo)), some (.int (nI D)), some (.int (nI (21 + D))), some (.int (nI i)), some (.int 0)] [] h sz := by
    intro e_8
    refine l2_X6_tries hM mo D i hTB e_8 (k h M hM hFR ?_)
    rw [fold_x hInv S, ← e_8]
    exact hTF
  have kO : i < 2 * Q.1 → bsy E (nI i) = true → V l G RX6 cX6_tries 7 none false 7 0 0 Post 102 [some (.ref m), some (.int (nI mo)), some (.int (nI D)), some (.int (nI (21 + D))), some (.int (nI i)), some (.int 0)] [] h sz := by
    intro e_9 hb
    obtain ⟨F, hF⟩ : ∃ F, F = eH' E (eH ((fdS Q c E S i).2 c)) := ⟨_, rfl⟩
    have hI' : Inv Q (B + 3 - (c + 1)) F := by rw [hF]; exact hInv
    have hb' : bsy F (nI i) = true := by rw [hF]; exact hb
    have hRw' : RowE (M.2.2.1 3) (21 + D) Q.1 F := by rw [hF]; exact hRw
    have hJ := (Inv.JC (Q := Q) (B + 3 - (c + 1)) F (by omega) hI').2 i e_9 hb'
    refine l3_X6_tries hM mo D i hmo (by omega) hn hTB hRw' e_9 hb' hJ.1 (fun h M3 hM g1 g7 g70 gr gi hR3 => ?_)
    have hT := fdS_t (Q := Q) (c := c) (S := S) hb
    rw [← hF] at hT
    refine IH (D + 1) (by omega) _ ((fdS Q c E S i).1, va_up (fdS Q c E S i).2 c (dlE Q F (nI i))) _ h hM (PI.mono (by omega) (Nat.le_refl _) hJ.2) (hTB.of g1) (hTF.of gi) ((fold_1 S i).trans hS1) hR3 g70 (fun h M4 hM hFR4 hTF4 => ?_)
    rw [← hT] at hTF4
    have eD : nI (D + 1) - 1 = nI D := nI_pred D
    rw [eD]
    have hRw4 : RowE (M4.2.2.1 3) (21 + D) Q.1 E := hRw.tr hn (fun t ht => (hFR4.2.2.2.2.1 _ (by omega)).trans (gr _ (by omega)))
    refine lh_X6_tries hM mo D (i + 1) hmo (by omega) (by omega) hRw4 hN0 ((hFR4.2.2.2.2.2 D (by omega)).trans g7) ?_
    exact ih (i + 1) rfl (by omega) h M4 hM ((hFR.tr (Nat.le_refl _) g1).tr (D1 := D + 1) (by omega) hFR4) ((hTB.of g1).of hFR4) hTF4 hRw4
  refine V_iload 70 dX6_tries_70 rfl ?_
  refine V_if_ne 72 102 dX6_tries_72 rfl (fun q => absurd rfl q) (fun _ => ?_)
  refine V_iload 75 dX6_tries_75 rfl ?_
  refine V_iconstv 77 (2) dX6_tries_77 (by decide) ?_
  refine V_aload_n 78 dX6_tries_78 rfl ?_
  refine V_get 79 dX6_tries_79 fdX6_41 (by first | exact hM.1.1 | exact hM.1.2.1 | exact hM.1.2.2.1 | exact hM.1.2.2.2.1 | exact hM.1.2.2.2.2.1 | exact hM.1.2.2.2.2.2.1 | exact hM.1.2.2.2.2.2.2.1 | exact hM.1.2.2.2.2.2.2.2.1 | exact hM.1.2.2.2.2.2.2.2.2.1 | exact hM.1.2.2.2.2.2.2.2.2.2.1 | exact hM.1.2.2.2.2.2.2.2.2.2.2) rfl ?_
  refine V_imul 82 dX6_tries_82 ?_
  refine V_topi (nI (2 * Q.1)) (by rw [hTB.1]; exact pk_mul 2 Q.1) ?_
  refine V_icmp_ge 83 102 dX6_tries_83 rfl (fun c_83 => ?_) (fun c_83 => ?_)
  · have e_9 : i = 2 * Q.1 := Nat.le_antisymm hi ((nI_leI (by omega) (by omega)).mp c_83)
    first | exact kE e_9 | exact kO e_9 hb
  · have e_9 : i < 2 * Q.1 := Nat.lt_of_not_le (fun q => c_83 (nI_le q (by omega)))
    refine V_aload_n 86 dX6_tries_86 rfl ?_
    refine V_iload_n 87 dX6_tries_87 rfl ?_
    refine V_iload 88 dX6_tries_88 rfl ?_
    refine V_iv2 90 dX6_tries_90 kvX6_133 rfl (by first | exact hM.1.1 | exact hM.1.2.1 | exact hM.1.2.2.1 | exact hM.1.2.2.2.1 | exact hM.1.2.2.2.2.1 | exact hM.1.2.2.2.2.2.1 | exact hM.1.2.2.2.2.2.2.1 | exact hM.1.2.2.2.2.2.2.2.1 | exact hM.1.2.2.2.2.2.2.2.2.1 | exact hM.1.2.2.2.2.2.2.2.2.2.1 | exact hM.1.2.2.2.2.2.2.2.2.2.2) rfl rfl (c_X6_manyOn (⟨hM, MF.rf, hTB.1, hTB.2.1, hRw, by omega, hn⟩ : WX G h0 h m M M (21 + D) E Q) ?_)
    refine V_if_ne 93 102 dX6_tries_93 rfl (fun c_93 => ?_) (fun c_93 => ?_)
    · have hb : bsy E (nI i) = true := Classical.byContradiction (fun q => c_93 (nI_z (lo_nb q)))
      first | exact kE e_9 | exact kO e_9 hb
    · have hb : ¬ bsy E (nI i) = true := fun q => nI_ne0 ((lo_bsy E _).mp q) (by have : loE E (nI i) ≤ eN E := ctN_le _ _; omega) c_93
      refine V_iinc 96 (nI (i + 1)) dX6_tries_96 rfl (nI_inc i) rfl rfl ?_
      refine V_goto 99 70 dX6_tries_99 rfl ?_
      refine ih (i + 1) rfl (by omega) h M hM hFR hTB ?_ hRw
      rw [fdS_f hb]
      exact hTF
set_option maxHeartbeats 1000000 in
set_option maxRecDepth 100000 in
theorem lp_X6_tries (mo : Nat) (hmo : mo ≤ 3) (hB : B < 2 ^ 28) {sb : Int32} (hn : Q.1 ≤ 6) : ∀ c, ∀ D, D + c = mo → ∀ (E : ET) (S : FT × (Nat → ET)) (M : MT) (h : hpT), WM G h0 h m M → Inv Q (B + 3 - c) E → TB Q sb M → TF S.1 M → S.1.1 = sb → RowE (M.2.2.1 3) (21 + D) Q.1 E → M.2.2.1 7 D = 0 → (∀ h M1, WM G h0 h m M1 → FRM D M M1 → TF (exE Q c E S).1 M1 → V l G RX6 cX6_tries 7 none false 7 0 0 Post 16 [some (.ref m), some (.int (nI mo)), some (.int (nI D - 1))] [] h sz) → V l G RX6 cX6_tries 7 none false 7 0 0 Post 16 [some (.ref m), some (.int (nI mo)), some (.int (nI D))] [] h sz := by
  intro c
  induction c with
  | zero =>
    intro D hD E S M h hM hI hTB hTF hS1 hRw h7 k
    exact le_X6_tries hM mo D hmo (by omega) hn hTB hTF hS1 hRw (Or.inl (by omega)) k
  | succ c IH =>
    intro D hD E S M h hM hI hTB hTF hS1 hRw h7 k
    by_cases e : eN E = 0
    · rw [exE_e e] at k
      exact le_X6_tries hM mo D hmo (by omega) hn hTB hTF hS1 hRw (Or.inr e) k
    · rw [exE_s e] at k
      refine lh_X6_tries hM mo D 0 hmo (by omega) (by omega) hRw e h7 ?_
      exact li_X6_tries mo c hmo hB hn IH D hD hI e hS1 k 0 (Nat.zero_le _) h M hM FRM.rf hTB (by rw [fdS_0]; exact hTF) hRw
set_option maxHeartbeats 1000000 in
set_option maxRecDepth 100000 in
theorem c_X6_tries (hM : WM G h0 h m M) (mo : Nat) (hmo : 1 ≤ mo ∧ mo ≤ 3) (hB : B < 2 ^ 28) (hn : Q.1 ≤ 6) {S : FT × (Nat → ET)} (hI : Inv Q B E) (hTB : TB Q S.1.1 M) (hTF : TF S.1 M) (hRw : RowE (M.2.2.1 3) 0 Q.1 E) (k : ∀ h M1, WM G h0 h m M1 → FRM 0 M M1 → TF (exE Q mo E S).1 M1 → Post none h sz) : Cn l G yX6_tries cX6_tries 7 none 7 0 0 [.ref m, .int (nI mo)] h sz Post := by
  refine Cn.of RX6 false (by decide) rfl (fun q => by cases q) (Nat.le_of_ble_eq_true rfl) ?_
  refine V_aload_n 0 dX6_tries_0 rfl ?_
  refine V_iconstv 1 (0) dX6_tries_1 (by decide) ?_
  refine V_bipushv 2 (21) dX6_tries_2 (by decide) ?_
  refine V_iv2 4 dX6_tries_4 kvX6_156 rfl (by first | exact hM.1.1 | exact hM.1.2.1 | exact hM.1.2.2.1 | exact hM.1.2.2.2.1 | exact hM.1.2.2.2.2.1 | exact hM.1.2.2.2.2.2.1 | exact hM.1.2.2.2.2.2.2.1 | exact hM.1.2.2.2.2.2.2.2.1 | exact hM.1.2.2.2.2.2.2.2.2.1 | exact hM.1.2.2.2.2.2.2.2.2.2.1 | exact hM.1.2.2.2.2.2.2.2.2.2.2) rfl rfl (c_X6_copies hM 0 21 (by omega) (by omega) (by omega) (fun h hM => ?_))
  refine V_iconstv 7 (0) dX6_tries_7 (by decide) ?_
  refine V_istore_n 8 dX6_tries_8 rfl rfl ?_
  refine V_aload_n 9 dX6_tries_9 rfl ?_
  refine V_get 10 dX6_tries_10 fdX6_28 (by first | exact hM.1.1 | exact hM.1.2.1 | exact hM.1.2.2.1 | exact hM.1.2.2.2.1 | exact hM.1.2.2.2.2.1 | exact hM.1.2.2.2.2.2.1 | exact hM.1.2.2.2.2.2.2.1 | exact hM.1.2.2.2.2.2.2.2.1 | exact hM.1.2.2.2.2.2.2.2.2.1 | exact hM.1.2.2.2.2.2.2.2.2.2.1 | exact hM.1.2.2.2.2.2.2.2.2.2.2) rfl ?_
  refine V_iconstv 13 (0) dX6_tries_13 (by decide) ?_
  refine V_iconstv 14 (0) dX6_tries_14 (by decide) ?_
  refine V_ia7 15 0 rfl dX6_tries_15 hM (vp_in_nI (n := 0) (by omega) (by decide)) (fun h hM => ?_)
  have g : FRM 0 M (mJ (mJ M 3 (cpF (M.2.2.1 3) 0 21 168)) 7 (upd ((mJ M 3 (cpF (M.2.2.1 3) 0 21 168)).2.2.1 7) 0 0)) := (FRM.mf (r := 21) (by omega) (MF.cp (a := 0))).tr (Nat.le_refl _) (FRM.n1 (Nat.le_refl _))
  have hB3 : Inv Q (B + 3 - mo) E := PI.mono (by omega) (Nat.le_refl _) hI
  refine lp_X6_tries mo hmo.2 hB hn mo 0 (by omega) E S _ h hM hB3 (hTB.of g) hTF rfl (RowE.cp (a := 0) (r := 21) hRw hn) (pk_us (f := M.2.2.1 7) (k := 0)) (fun h M1 hM hFR hTF => ?_)
  refine V_iload_n 16 dX6_tries_16 rfl ?_
  refine V_if_lt 17 176 dX6_tries_17 rfl (fun _ => ?_) (fun q => absurd (show (nI 0 - 1 : Int32) < 0 by decide) q)
  refine V_vret 176 dX6_tries_176 ?_
  exact k h M1 hM (g.tr (Nat.le_refl _) hFR) hTF
end M40
