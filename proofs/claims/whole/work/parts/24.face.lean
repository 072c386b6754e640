def bgOK (Q : RG) (way : Int32) : Prop := ¬ Q.1 = 0 ∧ ((way = 3 ∨ way = 4) → ∀ i, 1 ≤ i → i < Q.1 → Q.2.2 i = Q.2.2 0)
def ctdR (Q : RG) (E : ET) (w y : Int32) : Int32 := if y = 0 then nmR Q w else if y = 1 then celE E w 1 else if y = 2 then celE E w 0 else if y = 3 then celE E w 2 else if y = 4 then celE E w 3 else if y = 5 then celE E w 4 else if y = 6 then celE E w 5 else -1000002
def letR (E : ET) (p y : Int32) : Int32 := if y = 0 then lcE E p 1 else if y = 1 then lcE E p 2 else if y = 2 then lcE E p 3 else if y = 3 then lcE E p 4 else if y = 4 then lcE E p 5 else -1000002
def insN (Q : RG) (E : ET) (s : Int32) : Int32 := nI (stE E (if eW E = 0 then 0 else Q.1) s)
def cntR (X : TX) (Q : RG) (E : ET) (hs : Nat) (y : Int32) : Int32 := if y = 0 then nI Q.1 else if y = 1 then eW E else if y = 2 then nI (eN E) else if y = 3 then insN Q E 0 else if y = 4 then insN Q E 1 else if y = 5 then insN Q E 2 else if y = 6 then insN Q E 3 else if y = 7 then insN Q E 4 else if y = 8 then hdE E Q.1 else if y = 9 then nI hs else if y = 10 then nI X.1 else -1000002
def wldR (Q : RG) (E Et : ET) (m : Nat) (y : Int32) : Int32 := if y = 0 then nI m else if y = 1 then snE Et 0 - snE E 0 else if y = 2 then hdE Et Q.1 else if y = 3 then insN Q Et 3 + insN Q Et 4 else if nI (eN Et) = 0 then 1 else 0
def forR (F : FT) (y : Int32) : Int32 := if y = 0 then F.2.1 else if y = 1 then F.2.2.1 else if y = 2 then F.2.2.2.1 else F.2.2.2.2
def sitR (n : Nat) (y : Int32) : Int32 := if y = 0 then 2 * nI n - 1 else if y = 1 then nI n * (nI n + 1) / 2 else if y = 2 then (lwE (smN n 6) 60 1).toInt32 else (lwE (smN n 6) 60 0).toInt32
def okOrd (a b : Int32) : Prop := (0 ≤ a ∧ a ≤ 3) ∧ (1 ≤ b ∧ b ≤ 999999)
section M24
variable {l : Launch} {G : zGT} {h : hpT} {sz : Nat} {Post : Option Value → hpT → Nat → Prop} {x nx hs : Nat} {X : TX} {Qp Qd : RG} {En Et : ET} {K : Nat → ET} {S : FT × (Nat → ET)}
set_option maxHeartbeats 1000000 in
set_option maxRecDepth 100000 in
theorem c_X5_write (hC : CA G h x X Qp Qd En Et nx hs K S) {v : Int32} (k0 : ¬ (0 ≤ v ∧ v ≤ 255) → Post (some (.int (-1000002))) h sz) (k2 : (0 ≤ v ∧ v ≤ 255) → ¬ X.1 < 40 → Post (some (.int (-1000004))) h sz) (k1 : (0 ≤ v ∧ v ≤ 255) → X.1 < 40 → ∀ h1, CA G h1 x (X.1 + 1, upd X.2.1 X.1 v, X.2.2) Qp Qd En Et nx hs K S → Fr x 138 h h1 → Post (some (.int (nI (X.1 + 1)))) h1 sz) : Cn l G yX5_write cX5_write 2 (some .int) 1 0 0 [.ref x, .int v] h sz Post := by
  refine Cn.of RX5 false (by decide) rfl (fun q => by cases q) (Nat.le_of_ble_eq_true rfl) ?_
  have hFr : Fr x 138 h h := Fr.rf
  refine V_iload_n 0 dX5_write_0 rfl ?_
  refine V_iconstv 1 (0) dX5_write_1 (by decide) ?_
  refine V_sipushv 2 (255) dX5_write_2 (by decide) ?_
  refine V_is3 5 dX5_write_5 ksX5_52 rfl rfl (c_X5_within (fun c_5 => ?_) (fun c_5 => ?_))
  · refine V_if_ne 8 14 dX5_write_8 rfl (fun _ => ?_) (fun q => absurd q (by decide))
    refine V_aload_n 14 dX5_write_14 rfl ?_
    refine V_get 15 dX5_write_15 fdX5_10 (by first | exact hC.1 | exact hC.2.1.1 | exact hC.2.2.1.1 | exact hC.2.2.2.1.1 | exact hC.2.2.2.2.1.1 | exact hC.2.2.2.2.2.1.1 | exact hC.2.2.2.2.2.2.1.1 | exact hC.2.2.2.2.2.2.2.1) rfl ?_
    refine V_iload_n 18 dX5_write_18 rfl ?_
    refine V_iv1 19 dX5_write_19 kvX5_57 rfl hC.2.1.1 rfl rfl (c_X4_append hC.wt (fun c_a h1 hT => ?_) (fun c_a => ?_))
    · replace hFr := hFr.tr (hT.2.2.1.p.fr (o := x) (n := 138) (fun a q => by omega))
      replace hC := hC.txt hT
      refine V_if_eq 22 35 dX5_write_22 rfl (fun q => absurd q (by decide)) (fun _ => ?_)
      refine V_aload_n 25 dX5_write_25 rfl ?_
      refine V_get 26 dX5_write_26 fdX5_10 (by first | exact hC.1 | exact hC.2.1.1 | exact hC.2.2.1.1 | exact hC.2.2.2.1.1 | exact hC.2.2.2.2.1.1 | exact hC.2.2.2.2.2.1.1 | exact hC.2.2.2.2.2.2.1.1 | exact hC.2.2.2.2.2.2.2.1) rfl ?_
      refine V_get 29 dX5_write_29 fdX5_61 (by first | exact hC.1 | exact hC.2.1.1 | exact hC.2.2.1.1 | exact hC.2.2.2.1.1 | exact hC.2.2.2.2.1.1 | exact hC.2.2.2.2.2.1.1 | exact hC.2.2.2.2.2.2.1.1 | exact hC.2.2.2.2.2.2.2.1) rfl ?_
      refine V_goto 32 37 dX5_write_32 rfl ?_
      refine V_iret 37 dX5_write_37 ?_
      exact k1 c_5 c_a _ hC hFr
    · refine V_if_eq 22 35 dX5_write_22 rfl (fun _ => ?_) (fun q => absurd q (by decide))
      refine V_ldc 35 dX5_write_35 knX5_65 ?_
      refine V_iret 37 dX5_write_37 ?_
      exact k2 c_5 c_a
  · refine V_if_ne 8 14 dX5_write_8 rfl (fun q => absurd q (by decide)) (fun _ => ?_)
    refine V_ldc 11 dX5_write_11 knX5_56 ?_
    refine V_iret 13 dX5_write_13 ?_
    exact k0 c_5
set_option maxHeartbeats 1000000 in
set_option maxRecDepth 100000 in
theorem c_X5_fault (hC : CA G h x X Qp Qd En Et nx hs K S) (k : Post (some (.int X.2.2.1)) h sz) : Cn l G yX5_fault cX5_fault 1 (some .int) 0 0 0 [.ref x] h sz Post := by
  refine Cn.of RX5 false (by decide) rfl (fun q => by cases q) (Nat.le_of_ble_eq_true rfl) ?_
  refine V_aload_n 0 dX5_fault_0 rfl ?_
  refine V_get 1 dX5_fault_1 fdX5_10 (by first | exact hC.1 | exact hC.2.1.1 | exact hC.2.2.1.1 | exact hC.2.2.2.1.1 | exact hC.2.2.2.2.1.1 | exact hC.2.2.2.2.2.1.1 | exact hC.2.2.2.2.2.2.1.1 | exact hC.2.2.2.2.2.2.2.1) rfl ?_
  refine V_get 4 dX5_fault_4 fdX5_83 (by first | exact hC.1 | exact hC.2.1.1 | exact hC.2.2.1.1 | exact hC.2.2.2.1.1 | exact hC.2.2.2.2.1.1 | exact hC.2.2.2.2.2.1.1 | exact hC.2.2.2.2.2.2.1.1 | exact hC.2.2.2.2.2.2.2.1) rfl ?_
  refine V_iret 7 dX5_fault_7 ?_
  exact k
set_option maxHeartbeats 1000000 in
set_option maxRecDepth 100000 in
theorem c_X5_ring (hC : CA G h x X Qp Qd En Et nx hs K S) (k0 : ¬ (rdE 41 0 (X.1, X.2.1, X.2.2.1, X.2.2.2.1, 0) (0, Qd.2)).1 = -1 → ∀ h1, CA G h1 x (0, (rdE 41 0 (X.1, X.2.1, X.2.2.1, X.2.2.2.1, 0) (0, Qd.2)).2.1.2) Qp (rdE 41 0 (X.1, X.2.1, X.2.2.1, X.2.2.2.1, 0) (0, Qd.2)).2.2 En Et nx hs K S → Fr x 138 h h1 → Post (some (.int (-100 - (rdE 41 0 (X.1, X.2.1, X.2.2.1, X.2.2.2.1, 0) (0, Qd.2)).1))) h1 sz) (k1 : (rdE 41 0 (X.1, X.2.1, X.2.2.1, X.2.2.2.1, 0) (0, Qd.2)).1 = -1 → ∀ h1, CA G h1 x (0, (rdE 41 0 (X.1, X.2.1, X.2.2.1, X.2.2.2.1, 0) (0, Qd.2)).2.1.2) (rdE 41 0 (X.1, X.2.1, X.2.2.1, X.2.2.2.1, 0) (0, Qd.2)).2.2 (rdE 41 0 (X.1, X.2.1, X.2.2.1, X.2.2.2.1, 0) (0, Qd.2)).2.2 (startE (rdE 41 0 (X.1, X.2.1, X.2.2.1, X.2.2.2.1, 0) (0, Qd.2)).2.2 En 0 1 1) Et nx 0 K S → Fr x 138 h h1 → Post (some (.int (nI (rdE 41 0 (X.1, X.2.1, X.2.2.1, X.2.2.2.1, 0) (0, Qd.2)).2.2.1))) h1 sz) : Cn l G yX5_ring cX5_ring 2 (some .int) 5 0 0 [.ref x] h sz Post := by
  refine Cn.of RX5 false (by decide) rfl (fun q => by cases q) (Nat.le_of_ble_eq_true rfl) ?_
  have hFr : Fr x 138 h h := Fr.rf
  refine V_aload_n 0 dX5_ring_0 rfl ?_
  refine V_get 1 dX5_ring_1 fdX5_10 (by first | exact hC.1 | exact hC.2.1.1 | exact hC.2.2.1.1 | exact hC.2.2.2.1.1 | exact hC.2.2.2.2.1.1 | exact hC.2.2.2.2.2.1.1 | exact hC.2.2.2.2.2.2.1.1 | exact hC.2.2.2.2.2.2.2.1) rfl ?_
  refine V_aload_n 4 dX5_ring_4 rfl ?_
  refine V_get 5 dX5_ring_5 fdX5_23 (by first | exact hC.1 | exact hC.2.1.1 | exact hC.2.2.1.1 | exact hC.2.2.2.1.1 | exact hC.2.2.2.2.1.1 | exact hC.2.2.2.2.2.1.1 | exact hC.2.2.2.2.2.2.1.1 | exact hC.2.2.2.2.2.2.2.1) rfl ?_
  refine V_iv1 8 dX5_ring_8 kvX5_66 rfl (by first | exact hC.1 | exact hC.2.1.1 | exact hC.2.2.1.1 | exact hC.2.2.2.1.1 | exact hC.2.2.2.2.1.1 | exact hC.2.2.2.2.2.1.1 | exact hC.2.2.2.2.2.2.1.1 | exact hC.2.2.2.2.2.2.2.1) rfl rfl (c_X4_readInto hC.wt (fun h1 hT => ?_))
  have hC0 := hC
  replace hC := hC.txt hT
  refine V_istore_n 11 dX5_ring_11 rfl rfl ?_
  refine V_aload_n 12 dX5_ring_12 rfl ?_
  refine V_get 13 dX5_ring_13 fdX5_10 (by first | exact hC.1 | exact hC.2.1.1 | exact hC.2.2.1.1 | exact hC.2.2.2.1.1 | exact hC.2.2.2.2.1.1 | exact hC.2.2.2.2.2.1.1 | exact hC.2.2.2.2.2.2.1.1 | exact hC.2.2.2.2.2.2.2.1) rfl ?_
  refine V_iconstv 16 (0) dX5_ring_16 (by decide) ?_
  refine V_putT1 17 0 rfl (by omega) dX5_ring_17 fpX5_61 hT (fun h1 hT => ?_)
  replace hFr := hFr.tr (hT.2.2.1.p.fr (o := x) (n := 138) (fun a q => by omega))
  replace hC := hC0.txt hT
  clear hC0
  refine V_iload_n 20 dX5_ring_20 rfl ?_
  refine V_iconstv 21 (-1) dX5_ring_21 (by decide) ?_
  refine V_icmp_eq 22 30 dX5_ring_22 rfl (fun c_22 => ?_) (fun c_22 => ?_)
  · refine V_aload_n 30 dX5_ring_30 rfl ?_
    refine V_get 31 dX5_ring_31 fdX5_19 (by first | exact hC.1 | exact hC.2.1.1 | exact hC.2.2.1.1 | exact hC.2.2.2.1.1 | exact hC.2.2.2.2.1.1 | exact hC.2.2.2.2.2.1.1 | exact hC.2.2.2.2.2.2.1.1 | exact hC.2.2.2.2.2.2.2.1) rfl ?_
    refine V_aload_n 34 dX5_ring_34 rfl ?_
    refine V_get 35 dX5_ring_35 fdX5_23 (by first | exact hC.1 | exact hC.2.1.1 | exact hC.2.2.1.1 | exact hC.2.2.2.1.1 | exact hC.2.2.2.2.1.1 | exact hC.2.2.2.2.2.1.1 | exact hC.2.2.2.2.2.2.1.1 | exact hC.2.2.2.2.2.2.2.1) rfl ?_
    refine V_iv1 38 dX5_ring_38 kvX5_70 rfl (by first | exact hC.1 | exact hC.2.1.1 | exact hC.2.2.1.1 | exact hC.2.2.2.1.1 | exact hC.2.2.2.2.1.1 | exact hC.2.2.2.2.2.1.1 | exact hC.2.2.2.2.2.2.1.1 | exact hC.2.2.2.2.2.2.2.1) rfl rfl (c_X3_copyFrom hC.2.2.1 hC.2.2.2.1 (Or.inl (by omega)) (fun h2 hR => ?_))
    replace hFr := hFr.tr (hR.2.of (by omega) (by omega))
    replace hC := hC.pre hR.1 hR.2
    refine V_aload_n 41 dX5_ring_41 rfl ?_
    refine V_get 42 dX5_ring_42 fdX5_31 (by first | exact hC.1 | exact hC.2.1.1 | exact hC.2.2.1.1 | exact hC.2.2.2.1.1 | exact hC.2.2.2.2.1.1 | exact hC.2.2.2.2.2.1.1 | exact hC.2.2.2.2.2.2.1.1 | exact hC.2.2.2.2.2.2.2.1) rfl ?_
    refine V_iconstv 45 (0) dX5_ring_45 (by decide) ?_
    refine V_iconstv 46 (1) dX5_ring_46 (by decide) ?_
    refine V_iconstv 47 (1) dX5_ring_47 (by decide) ?_
    refine V_iv3 48 dX5_ring_48 kvX5_73 rfl (by first | exact hC.1 | exact hC.2.1.1 | exact hC.2.2.1.1 | exact hC.2.2.2.1.1 | exact hC.2.2.2.2.1.1 | exact hC.2.2.2.2.2.1.1 | exact hC.2.2.2.2.2.2.1.1 | exact hC.2.2.2.2.2.2.2.1) rfl rfl (c_X0_start hC.wn (fun h3 hW => ?_))
    have hF := hW.2.2.1
    replace hC := hC.now hW.1 hF
    replace hFr := hFr.tr (hF.of (by omega) (by omega))
    clear hF hW
    refine V_aload_n 51 dX5_ring_51 rfl ?_
    refine V_get 52 dX5_ring_52 fdX5_41 (by first | exact hC.1 | exact hC.2.1.1 | exact hC.2.2.1.1 | exact hC.2.2.2.1.1 | exact hC.2.2.2.2.1.1 | exact hC.2.2.2.2.2.1.1 | exact hC.2.2.2.2.2.2.1.1 | exact hC.2.2.2.2.2.2.2.1) rfl ?_
    refine V_iv0 55 dX5_ring_55 kvX5_77 rfl (by first | exact hC.1 | exact hC.2.1.1 | exact hC.2.2.1.1 | exact hC.2.2.2.1.1 | exact hC.2.2.2.2.1.1 | exact hC.2.2.2.2.2.1.1 | exact hC.2.2.2.2.2.2.1.1 | exact hC.2.2.2.2.2.2.2.1) rfl rfl (c_X2_forget hC.2.2.2.2.2.2.1 (fun h4 hH hF => ?_))
    replace hC := hC.his hH (hF.of (by omega) (by omega))
    replace hFr := hFr.tr (hF.of (by omega) (by omega))
    refine V_aload_n 58 dX5_ring_58 rfl ?_
    refine V_get 59 dX5_ring_59 fdX5_19 (by first | exact hC.1 | exact hC.2.1.1 | exact hC.2.2.1.1 | exact hC.2.2.2.1.1 | exact hC.2.2.2.2.1.1 | exact hC.2.2.2.2.2.1.1 | exact hC.2.2.2.2.2.2.1.1 | exact hC.2.2.2.2.2.2.2.1) rfl ?_
    refine V_get 62 dX5_ring_62 fdX5_80 (by first | exact hC.1 | exact hC.2.1.1 | exact hC.2.2.1.1 | exact hC.2.2.2.1.1 | exact hC.2.2.2.2.1.1 | exact hC.2.2.2.2.2.1.1 | exact hC.2.2.2.2.2.2.1.1 | exact hC.2.2.2.2.2.2.2.1) rfl ?_
    refine V_iret 65 dX5_ring_65 ?_
    exact k1 c_22 _ hC hFr
  · refine V_bipushv 25 (-100) dX5_ring_25 (by decide) ?_
    refine V_iload_n 27 dX5_ring_27 rfl ?_
    refine V_isub 28 dX5_ring_28 ?_
    refine V_iret 29 dX5_ring_29 ?_
    exact k0 c_22 _ hC hFr
set_option maxHeartbeats 1000000 in
set_option maxRecDepth 100000 in
theorem c_X5_begin (hC : CA G h x X Qp Qd En Et nx hs K S) {a b c : Int32} (k0 : ¬ ((1 ≤ a ∧ a ≤ 4) ∧ (1 ≤ b ∧ b ≤ 9) ∧ (1 ≤ c ∧ c ≤ 999999)) → Post (some (.int (-1000002))) h sz) (k2 : ((1 ≤ a ∧ a ≤ 4) ∧ (1 ≤ b ∧ b ≤ 9) ∧ (1 ≤ c ∧ c ≤ 999999)) → ¬ bgOK Qp a → Post (some (.int (-1000003))) h sz) (k1 : ((1 ≤ a ∧ a ≤ 4) ∧ (1 ≤ b ∧ b ≤ 9) ∧ (1 ≤ c ∧ c ≤ 999999)) → bgOK Qp a → ∀ h1, CA G h1 x X Qp Qd (startE Qp En a b c) Et nx 0 K S → Fr x 138 h h1 → Post (some (.int (1))) h1 sz) : Cn l G yX5_begin cX5_begin 5 (some .int) 3 0 0 [.ref x, .int a, .int b, .int c] h sz Post := by
  refine Cn.of RX5 false (by decide) rfl (fun q => by cases q) (Nat.le_of_ble_eq_true rfl) ?_
  have hFr : Fr x 138 h h := Fr.rf
  have hn := hC.2.2.1.2.2.2.1
  refine V_iload_n 0 dX5_begin_0 rfl ?_
  refine V_iconstv 1 (1) dX5_begin_1 (by decide) ?_
  refine V_iconstv 2 (4) dX5_begin_2 (by decide) ?_
  refine V_is3 3 dX5_begin_3 ksX5_52 rfl rfl (c_X5_within (fun c_3 => ?_) (fun c_3 => ?_))
  · refine V_if_eq 6 29 dX5_begin_6 rfl (fun q => absurd q (by decide)) (fun _ => ?_)
    refine V_iload_n 9 dX5_begin_9 rfl ?_
    refine V_iconstv 10 (1) dX5_begin_10 (by decide) ?_
    refine V_bipushv 11 (9) dX5_begin_11 (by decide) ?_
    refine V_is3 13 dX5_begin_13 ksX5_52 rfl rfl (c_X5_within (fun c_13 => ?_) (fun c_13 => ?_))
    · refine V_if_eq 16 29 dX5_begin_16 rfl (fun q => absurd q (by decide)) (fun _ => ?_)
      refine V_iload_n 19 dX5_begin_19 rfl ?_
      refine V_iconstv 20 (1) dX5_begin_20 (by decide) ?_
      refine V_ldc 21 dX5_begin_21 knX5_86 ?_
      refine V_is3 23 dX5_begin_23 ksX5_52 rfl rfl (c_X5_within (fun c_23 => ?_) (fun c_23 => ?_))
      · refine V_if_ne 26 32 dX5_begin_26 rfl (fun _ => ?_) (fun q => absurd q (by decide))
        refine V_iload_n 32 dX5_begin_32 rfl ?_
        refine V_iconstv 33 (3) dX5_begin_33 (by decide) ?_
        refine V_icmp_eq 34 42 dX5_begin_34 rfl (fun c_34 => ?_) (fun c_34 => ?_)
        · refine V_iconstv 42 (1) dX5_begin_42 (by decide) ?_
          refine V_goto 43 47 dX5_begin_43 rfl ?_
          refine V_istore 47 dX5_begin_47 rfl rfl ?_
          refine V_aload_n 49 dX5_begin_49 rfl ?_
          refine V_get 50 dX5_begin_50 fdX5_19 (by first | exact hC.1 | exact hC.2.1.1 | exact hC.2.2.1.1 | exact hC.2.2.2.1.1 | exact hC.2.2.2.2.1.1 | exact hC.2.2.2.2.2.1.1 | exact hC.2.2.2.2.2.2.1.1 | exact hC.2.2.2.2.2.2.2.1) rfl ?_
          refine V_get 53 dX5_begin_53 fdX5_80 (by first | exact hC.1 | exact hC.2.1.1 | exact hC.2.2.1.1 | exact hC.2.2.2.1.1 | exact hC.2.2.2.2.1.1 | exact hC.2.2.2.2.2.1.1 | exact hC.2.2.2.2.2.2.1.1 | exact hC.2.2.2.2.2.2.2.1) rfl ?_
          refine V_if_eq 56 74 dX5_begin_56 rfl (fun c_56 => ?_) (fun c_56 => ?_)
          · have e_56 : Qp.1 = 0 := (nI_eq (b := 0) (by omega) (by decide)).mp c_56
            refine V_ldc 74 dX5_begin_74 knX5_91 ?_
            refine V_iret 76 dX5_begin_76 ?_
            first | exact k2 ⟨c_3, c_13, c_23⟩ (fun q => q.1 e_56) | (obtain ⟨i, h1, h2, h3⟩ := c_68; first | exact k2 ⟨c_3, c_13, c_23⟩ (fun q => h3 (q.2 (Or.inl c_34) i h1 h2)) | exact k2 ⟨c_3, c_13, c_23⟩ (fun q => h3 (q.2 (Or.inr c_39) i h1 h2)))
          · have e_56 : ¬ Qp.1 = 0 := fun q => c_56 (by show nI Qp.1 = 0; rw [q]; rfl)
            refine V_iload 59 dX5_begin_59 rfl ?_
            refine V_if_eq 61 77 dX5_begin_61 rfl (fun q => absurd q (by decide)) (fun _ => ?_)
            refine V_aload_n 64 dX5_begin_64 rfl ?_
            refine V_get 65 dX5_begin_65 fdX5_19 (by first | exact hC.1 | exact hC.2.1.1 | exact hC.2.2.1.1 | exact hC.2.2.2.1.1 | exact hC.2.2.2.2.1.1 | exact hC.2.2.2.2.2.1.1 | exact hC.2.2.2.2.2.2.1.1 | exact hC.2.2.2.2.2.2.2.1) rfl ?_
            refine V_iv0 68 dX5_begin_68 kvX5_87 rfl (by first | exact hC.1 | exact hC.2.1.1 | exact hC.2.2.1.1 | exact hC.2.2.2.1.1 | exact hC.2.2.2.2.1.1 | exact hC.2.2.2.2.2.1.1 | exact hC.2.2.2.2.2.2.1.1 | exact hC.2.2.2.2.2.2.2.1) rfl rfl (c_X3_sensesAgree hC.2.2.1 (fun c_68 => ?_) (fun c_68 => ?_))
            · refine V_if_ne 71 77 dX5_begin_71 rfl (fun _ => ?_) (fun q => absurd q (by decide))
              refine V_aload_n 77 dX5_begin_77 rfl ?_
              refine V_get 78 dX5_begin_78 fdX5_31 (by first | exact hC.1 | exact hC.2.1.1 | exact hC.2.2.1.1 | exact hC.2.2.2.1.1 | exact hC.2.2.2.2.1.1 | exact hC.2.2.2.2.2.1.1 | exact hC.2.2.2.2.2.2.1.1 | exact hC.2.2.2.2.2.2.2.1) rfl ?_
              refine V_iload_n 81 dX5_begin_81 rfl ?_
              refine V_iload_n 82 dX5_begin_82 rfl ?_
              refine V_iload_n 83 dX5_begin_83 rfl ?_
              refine V_iv3 84 dX5_begin_84 kvX5_73 rfl (by first | exact hC.1 | exact hC.2.1.1 | exact hC.2.2.1.1 | exact hC.2.2.2.1.1 | exact hC.2.2.2.2.1.1 | exact hC.2.2.2.2.2.1.1 | exact hC.2.2.2.2.2.2.1.1 | exact hC.2.2.2.2.2.2.2.1) rfl rfl (c_X0_start hC.wn (fun h3 hW => ?_))
              have hF := hW.2.2.1
              replace hC := hC.now hW.1 hF
              replace hFr := hFr.tr (hF.of (by omega) (by omega))
              clear hF hW
              refine V_aload_n 87 dX5_begin_87 rfl ?_
              refine V_get 88 dX5_begin_88 fdX5_41 (by first | exact hC.1 | exact hC.2.1.1 | exact hC.2.2.1.1 | exact hC.2.2.2.1.1 | exact hC.2.2.2.2.1.1 | exact hC.2.2.2.2.2.1.1 | exact hC.2.2.2.2.2.2.1.1 | exact hC.2.2.2.2.2.2.2.1) rfl ?_
              refine V_iv0 91 dX5_begin_91 kvX5_77 rfl (by first | exact hC.1 | exact hC.2.1.1 | exact hC.2.2.1.1 | exact hC.2.2.2.1.1 | exact hC.2.2.2.2.1.1 | exact hC.2.2.2.2.2.1.1 | exact hC.2.2.2.2.2.2.1.1 | exact hC.2.2.2.2.2.2.2.1) rfl rfl (c_X2_forget hC.2.2.2.2.2.2.1 (fun h4 hH hF => ?_))
              replace hC := hC.his hH (hF.of (by omega) (by omega))
              replace hFr := hFr.tr (hF.of (by omega) (by omega))
              refine V_iconstv 94 (1) dX5_begin_94 (by decide) ?_
              refine V_iret 95 dX5_begin_95 ?_
              first | exact k1 ⟨c_3, c_13, c_23⟩ ⟨e_56, fun _ => c_68⟩ _ hC hFr | exact k1 ⟨c_3, c_13, c_23⟩ ⟨e_56, fun q => by rcases q with q | q; exact absurd q c_34; exact absurd q c_39⟩ _ hC hFr
            · refine V_if_ne 71 77 dX5_begin_71 rfl (fun q => absurd q (by decide)) (fun _ => ?_)
              refine V_ldc 74 dX5_begin_74 knX5_91 ?_
              refine V_iret 76 dX5_begin_76 ?_
              first | exact k2 ⟨c_3, c_13, c_23⟩ (fun q => q.1 e_56) | (obtain ⟨i, h1, h2, h3⟩ := c_68; first | exact k2 ⟨c_3, c_13, c_23⟩ (fun q => h3 (q.2 (Or.inl c_34) i h1 h2)) | exact k2 ⟨c_3, c_13, c_23⟩ (fun q => h3 (q.2 (Or.inr c_39) i h1 h2)))
        · refine V_iload_n 37 dX5_begin_37 rfl ?_
          refine V_iconstv 38 (4) dX5_begin_38 (by decide) ?_
          refine V_icmp_ne 39 46 dX5_begin_39 rfl (fun c_39 => ?_) (fun c_39 => ?_)
          · refine V_iconstv 46 (0) dX5_begin_46 (by decide) ?_
            refine V_istore 47 dX5_begin_47 rfl rfl ?_
            refine V_aload_n 49 dX5_begin_49 rfl ?_
            refine V_get 50 dX5_begin_50 fdX5_19 (by first | exact hC.1 | exact hC.2.1.1 | exact hC.2.2.1.1 | exact hC.2.2.2.1.1 | exact hC.2.2.2.2.1.1 | exact hC.2.2.2.2.2.1.1 | exact hC.2.2.2.2.2.2.1.1 | exact hC.2.2.2.2.2.2.2.1) rfl ?_
            refine V_get 53 dX5_begin_53 fdX5_80 (by first | exact hC.1 | exact hC.2.1.1 | exact hC.2.2.1.1 | exact hC.2.2.2.1.1 | exact hC.2.2.2.2.1.1 | exact hC.2.2.2.2.2.1.1 | exact hC.2.2.2.2.2.2.1.1 | exact hC.2.2.2.2.2.2.2.1) rfl ?_
            refine V_if_eq 56 74 dX5_begin_56 rfl (fun c_56 => ?_) (fun c_56 => ?_)
            · have e_56 : Qp.1 = 0 := (nI_eq (b := 0) (by omega) (by decide)).mp c_56
              refine V_ldc 74 dX5_begin_74 knX5_91 ?_
              refine V_iret 76 dX5_begin_76 ?_
              first | exact k2 ⟨c_3, c_13, c_23⟩ (fun q => q.1 e_56) | (obtain ⟨i, h1, h2, h3⟩ := c_68; first | exact k2 ⟨c_3, c_13, c_23⟩ (fun q => h3 (q.2 (Or.inl c_34) i h1 h2)) | exact k2 ⟨c_3, c_13, c_23⟩ (fun q => h3 (q.2 (Or.inr c_39) i h1 h2)))
            · have e_56 : ¬ Qp.1 = 0 := fun q => c_56 (by show nI Qp.1 = 0; rw [q]; rfl)
              refine V_iload 59 dX5_begin_59 rfl ?_
              refine V_if_eq 61 77 dX5_begin_61 rfl (fun _ => ?_) (fun q => absurd q (by decide))
              refine V_aload_n 77 dX5_begin_77 rfl ?_
              refine V_get 78 dX5_begin_78 fdX5_31 (by first | exact hC.1 | exact hC.2.1.1 | exact hC.2.2.1.1 | exact hC.2.2.2.1.1 | exact hC.2.2.2.2.1.1 | exact hC.2.2.2.2.2.1.1 | exact hC.2.2.2.2.2.2.1.1 | exact hC.2.2.2.2.2.2.2.1) rfl ?_
              refine V_iload_n 81 dX5_begin_81 rfl ?_
              refine V_iload_n 82 dX5_begin_82 rfl ?_
              refine V_iload_n 83 dX5_begin_83 rfl ?_
              refine V_iv3 84 dX5_begin_84 kvX5_73 rfl (by first | exact hC.1 | exact hC.2.1.1 | exact hC.2.2.1.1 | exact hC.2.2.2.1.1 | exact hC.2.2.2.2.1.1 | exact hC.2.2.2.2.2.1.1 | exact hC.2.2.2.2.2.2.1.1 | exact hC.2.2.2.2.2.2.2.1) rfl rfl (c_X0_start hC.wn (fun h3 hW => ?_))
              have hF := hW.2.2.1
              replace hC := hC.now hW.1 hF
              replace hFr := hFr.tr (hF.of (by omega) (by omega))
              clear hF hW
              refine V_aload_n 87 dX5_begin_87 rfl ?_
              refine V_get 88 dX5_begin_88 fdX5_41 (by first | exact hC.1 | exact hC.2.1.1 | exact hC.2.2.1.1 | exact hC.2.2.2.1.1 | exact hC.2.2.2.2.1.1 | exact hC.2.2.2.2.2.1.1 | exact hC.2.2.2.2.2.2.1.1 | exact hC.2.2.2.2.2.2.2.1) rfl ?_
              refine V_iv0 91 dX5_begin_91 kvX5_77 rfl (by first | exact hC.1 | exact hC.2.1.1 | exact hC.2.2.1.1 | exact hC.2.2.2.1.1 | exact hC.2.2.2.2.1.1 | exact hC.2.2.2.2.2.1.1 | exact hC.2.2.2.2.2.2.1.1 | exact hC.2.2.2.2.2.2.2.1) rfl rfl (c_X2_forget hC.2.2.2.2.2.2.1 (fun h4 hH hF => ?_))
              replace hC := hC.his hH (hF.of (by omega) (by omega))
              replace hFr := hFr.tr (hF.of (by omega) (by omega))
              refine V_iconstv 94 (1) dX5_begin_94 (by decide) ?_
              refine V_iret 95 dX5_begin_95 ?_
              first | exact k1 ⟨c_3, c_13, c_23⟩ ⟨e_56, fun _ => c_68⟩ _ hC hFr | exact k1 ⟨c_3, c_13, c_23⟩ ⟨e_56, fun q => by rcases q with q | q; exact absurd q c_34; exact absurd q c_39⟩ _ hC hFr
          · refine V_iconstv 42 (1) dX5_begin_42 (by decide) ?_
            refine V_goto 43 47 dX5_begin_43 rfl ?_
            refine V_istore 47 dX5_begin_47 rfl rfl ?_
            refine V_aload_n 49 dX5_begin_49 rfl ?_
            refine V_get 50 dX5_begin_50 fdX5_19 (by first | exact hC.1 | exact hC.2.1.1 | exact hC.2.2.1.1 | exact hC.2.2.2.1.1 | exact hC.2.2.2.2.1.1 | exact hC.2.2.2.2.2.1.1 | exact hC.2.2.2.2.2.2.1.1 | exact hC.2.2.2.2.2.2.2.1) rfl ?_
            refine V_get 53 dX5_begin_53 fdX5_80 (by first | exact hC.1 | exact hC.2.1.1 | exact hC.2.2.1.1 | exact hC.2.2.2.1.1 | exact hC.2.2.2.2.1.1 | exact hC.2.2.2.2.2.1.1 | exact hC.2.2.2.2.2.2.1.1 | exact hC.2.2.2.2.2.2.2.1) rfl ?_
            refine V_if_eq 56 74 dX5_begin_56 rfl (fun c_56 => ?_) (fun c_56 => ?_)
            · have e_56 : Qp.1 = 0 := (nI_eq (b := 0) (by omega) (by decide)).mp c_56
              refine V_ldc 74 dX5_begin_74 knX5_91 ?_
              refine V_iret 76 dX5_begin_76 ?_
              first | exact k2 ⟨c_3, c_13, c_23⟩ (fun q => q.1 e_56) | (obtain ⟨i, h1, h2, h3⟩ := c_68; first | exact k2 ⟨c_3, c_13, c_23⟩ (fun q => h3 (q.2 (Or.inl c_34) i h1 h2)) | exact k2 ⟨c_3, c_13, c_23⟩ (fun q => h3 (q.2 (Or.inr c_39) i h1 h2)))
            · have e_56 : ¬ Qp.1 = 0 := fun q => c_56 (by show nI Qp.1 = 0; rw [q]; rfl)
              refine V_iload 59 dX5_begin_59 rfl ?_
              refine V_if_eq 61 77 dX5_begin_61 rfl (fun q => absurd q (by decide)) (fun _ => ?_)
              refine V_aload_n 64 dX5_begin_64 rfl ?_
              refine V_get 65 dX5_begin_65 fdX5_19 (by first | exact hC.1 | exact hC.2.1.1 | exact hC.2.2.1.1 | exact hC.2.2.2.1.1 | exact hC.2.2.2.2.1.1 | exact hC.2.2.2.2.2.1.1 | exact hC.2.2.2.2.2.2.1.1 | exact hC.2.2.2.2.2.2.2.1) rfl ?_
              refine V_iv0 68 dX5_begin_68 kvX5_87 rfl (by first | exact hC.1 | exact hC.2.1.1 | exact hC.2.2.1.1 | exact hC.2.2.2.1.1 | exact hC.2.2.2.2.1.1 | exact hC.2.2.2.2.2.1.1 | exact hC.2.2.2.2.2.2.1.1 | exact hC.2.2.2.2.2.2.2.1) rfl rfl (c_X3_sensesAgree hC.2.2.1 (fun c_68 => ?_) (fun c_68 => ?_))
              · refine V_if_ne 71 77 dX5_begin_71 rfl (fun _ => ?_) (fun q => absurd q (by decide))
                refine V_aload_n 77 dX5_begin_77 rfl ?_
                refine V_get 78 dX5_begin_78 fdX5_31 (by first | exact hC.1 | exact hC.2.1.1 | exact hC.2.2.1.1 | exact hC.2.2.2.1.1 | exact hC.2.2.2.2.1.1 | exact hC.2.2.2.2.2.1.1 | exact hC.2.2.2.2.2.2.1.1 | exact hC.2.2.2.2.2.2.2.1) rfl ?_
                refine V_iload_n 81 dX5_begin_81 rfl ?_
                refine V_iload_n 82 dX5_begin_82 rfl ?_
                refine V_iload_n 83 dX5_begin_83 rfl ?_
                refine V_iv3 84 dX5_begin_84 kvX5_73 rfl (by first | exact hC.1 | exact hC.2.1.1 | exact hC.2.2.1.1 | exact hC.2.2.2.1.1 | exact hC.2.2.2.2.1.1 | exact hC.2.2.2.2.2.1.1 | exact hC.2.2.2.2.2.2.1.1 | exact hC.2.2.2.2.2.2.2.1) rfl rfl (c_X0_start hC.wn (fun h3 hW => ?_))
                have hF := hW.2.2.1
                replace hC := hC.now hW.1 hF
                replace hFr := hFr.tr (hF.of (by omega) (by omega))
                clear hF hW
                refine V_aload_n 87 dX5_begin_87 rfl ?_
                refine V_get 88 dX5_begin_88 fdX5_41 (by first | exact hC.1 | exact hC.2.1.1 | exact hC.2.2.1.1 | exact hC.2.2.2.1.1 | exact hC.2.2.2.2.1.1 | exact hC.2.2.2.2.2.1.1 | exact hC.2.2.2.2.2.2.1.1 | exact hC.2.2.2.2.2.2.2.1) rfl ?_
                refine V_iv0 91 dX5_begin_91 kvX5_77 rfl (by first | exact hC.1 | exact hC.2.1.1 | exact hC.2.2.1.1 | exact hC.2.2.2.1.1 | exact hC.2.2.2.2.1.1 | exact hC.2.2.2.2.2.1.1 | exact hC.2.2.2.2.2.2.1.1 | exact hC.2.2.2.2.2.2.2.1) rfl rfl (c_X2_forget hC.2.2.2.2.2.2.1 (fun h4 hH hF => ?_))
                replace hC := hC.his hH (hF.of (by omega) (by omega))
                replace hFr := hFr.tr (hF.of (by omega) (by omega))
                refine V_iconstv 94 (1) dX5_begin_94 (by decide) ?_
                refine V_iret 95 dX5_begin_95 ?_
                first | exact k1 ⟨c_3, c_13, c_23⟩ ⟨e_56, fun _ => c_68⟩ _ hC hFr | exact k1 ⟨c_3, c_13, c_23⟩ ⟨e_56, fun q => by rcases q with q | q; exact absurd q c_34; exact absurd q c_39⟩ _ hC hFr
              · refine V_if_ne 71 77 dX5_begin_71 rfl (fun q => absurd q (by decide)) (fun _ => ?_)
                refine V_ldc 74 dX5_begin_74 knX5_91 ?_
                refine V_iret 76 dX5_begin_76 ?_
                first | exact k2 ⟨c_3, c_13, c_23⟩ (fun q => q.1 e_56) | (obtain ⟨i, h1, h2, h3⟩ := c_68; first | exact k2 ⟨c_3, c_13, c_23⟩ (fun q => h3 (q.2 (Or.inl c_34) i h1 h2)) | exact k2 ⟨c_3, c_13, c_23⟩ (fun q => h3 (q.2 (Or.inr c_39) i h1 h2)))
      · refine V_if_ne 26 32 dX5_begin_26 rfl (fun q => absurd q (by decide)) (fun _ => ?_)
        refine V_ldc 29 dX5_begin_29 knX5_56 ?_
        refine V_iret 31 dX5_begin_31 ?_
        first | exact k0 (fun q => c_3 q.1) | exact k0 (fun q => c_13 q.2.1) | exact k0 (fun q => c_23 q.2.2)
    · refine V_if_eq 16 29 dX5_begin_16 rfl (fun _ => ?_) (fun q => absurd q (by decide))
      refine V_ldc 29 dX5_begin_29 knX5_56 ?_
      refine V_iret 31 dX5_begin_31 ?_
      first | exact k0 (fun q => c_3 q.1) | exact k0 (fun q => c_13 q.2.1) | exact k0 (fun q => c_23 q.2.2)
  · refine V_if_eq 6 29 dX5_begin_6 rfl (fun _ => ?_) (fun q => absurd q (by decide))
    refine V_ldc 29 dX5_begin_29 knX5_56 ?_
    refine V_iret 31 dX5_begin_31 ?_
    first | exact k0 (fun q => c_3 q.1) | exact k0 (fun q => c_13 q.2.1) | exact k0 (fun q => c_23 q.2.2)
set_option maxHeartbeats 1000000 in
set_option maxRecDepth 100000 in
theorem c_X5_wake (hC : CA G h x X Qp Qd En Et nx hs K S) {w : Int32} (k0 : inb w Qp.1 = false → Post (some (.int (-1000001))) h sz) (k2 : inb w Qp.1 = true → ¬ (¬ eW En = 0 ∧ celE En w 0 = 0) → Post (some (.int (-1000003))) h sz) (k1 : inb w Qp.1 = true → ¬ eW En = 0 → celE En w 0 = 0 → ∀ h1, CA G h1 x X Qp Qd (rsE Qp En w) Et (kpN nx) (kpS hs) (va_up K nx (eH' En (eH (K nx)))) S → Fr x 138 h h1 → Post (some (.int (snE (rsE Qp En w) 0 - snE En 0))) h1 sz) : Cn l G yX5_wake cX5_wake 3 (some .int) 4 0 0 [.ref x, .int w] h sz Post := by
  refine Cn.of RX5 false (by decide) rfl (fun q => by cases q) (Nat.le_of_ble_eq_true rfl) ?_
  have hFr : Fr x 138 h h := Fr.rf
  refine V_aload_n 0 dX5_wake_0 rfl ?_
  refine V_get 1 dX5_wake_1 fdX5_19 (by first | exact hC.1 | exact hC.2.1.1 | exact hC.2.2.1.1 | exact hC.2.2.2.1.1 | exact hC.2.2.2.2.1.1 | exact hC.2.2.2.2.2.1.1 | exact hC.2.2.2.2.2.2.1.1 | exact hC.2.2.2.2.2.2.2.1) rfl ?_
  refine V_iload_n 4 dX5_wake_4 rfl ?_
  refine V_iv1 5 dX5_wake_5 kvX5_92 rfl (by first | exact hC.1 | exact hC.2.1.1 | exact hC.2.2.1.1 | exact hC.2.2.2.1.1 | exact hC.2.2.2.2.1.1 | exact hC.2.2.2.2.2.1.1 | exact hC.2.2.2.2.2.2.1.1 | exact hC.2.2.2.2.2.2.2.1) rfl rfl (c_X3_hasContender hC.2.2.1 (fun c_5 => ?_) (fun c_5 => ?_))
  · refine V_if_ne 8 14 dX5_wake_8 rfl (fun _ => ?_) (fun q => absurd q (by decide))
    refine V_aload_n 14 dX5_wake_14 rfl ?_
    refine V_get 15 dX5_wake_15 fdX5_31 (by first | exact hC.1 | exact hC.2.1.1 | exact hC.2.2.1.1 | exact hC.2.2.2.1.1 | exact hC.2.2.2.2.1.1 | exact hC.2.2.2.2.2.1.1 | exact hC.2.2.2.2.2.2.1.1 | exact hC.2.2.2.2.2.2.2.1) rfl ?_
    refine V_iv0 18 dX5_wake_18 kvX5_96 rfl (by first | exact hC.1 | exact hC.2.1.1 | exact hC.2.2.1.1 | exact hC.2.2.2.1.1 | exact hC.2.2.2.2.1.1 | exact hC.2.2.2.2.2.1.1 | exact hC.2.2.2.2.2.2.1.1 | exact hC.2.2.2.2.2.2.2.1) rfl rfl (c_X0_isBegun hC.wn (fun c_18 => ?_) (fun c_18 => ?_))
    · refine V_if_eq 21 36 dX5_wake_21 rfl (fun q => absurd q (by decide)) (fun _ => ?_)
      refine V_aload_n 24 dX5_wake_24 rfl ?_
      refine V_get 25 dX5_wake_25 fdX5_31 (by first | exact hC.1 | exact hC.2.1.1 | exact hC.2.2.1.1 | exact hC.2.2.2.1.1 | exact hC.2.2.2.2.1.1 | exact hC.2.2.2.2.2.1.1 | exact hC.2.2.2.2.2.2.1.1 | exact hC.2.2.2.2.2.2.2.1) rfl ?_
      refine V_iload_n 28 dX5_wake_28 rfl ?_
      refine V_iconstv 29 (0) dX5_wake_29 (by decide) ?_
      refine V_iv2 30 dX5_wake_30 kvX5_99 rfl (by first | exact hC.1 | exact hC.2.1.1 | exact hC.2.2.1.1 | exact hC.2.2.2.1.1 | exact hC.2.2.2.2.1.1 | exact hC.2.2.2.2.2.1.1 | exact hC.2.2.2.2.2.2.1.1 | exact hC.2.2.2.2.2.2.2.1) rfl rfl (c_X0_cell hC.wn ?_)
      refine V_if_eq 33 39 dX5_wake_33 rfl (fun c_33 => ?_) (fun c_33 => ?_)
      · refine V_aload_n 39 dX5_wake_39 rfl ?_
        refine V_get 40 dX5_wake_40 fdX5_41 (by first | exact hC.1 | exact hC.2.1.1 | exact hC.2.2.1.1 | exact hC.2.2.2.1.1 | exact hC.2.2.2.2.1.1 | exact hC.2.2.2.2.2.1.1 | exact hC.2.2.2.2.2.2.1.1 | exact hC.2.2.2.2.2.2.2.1) rfl ?_
        refine V_aload_n 43 dX5_wake_43 rfl ?_
        refine V_get 44 dX5_wake_44 fdX5_31 (by first | exact hC.1 | exact hC.2.1.1 | exact hC.2.2.1.1 | exact hC.2.2.2.1.1 | exact hC.2.2.2.2.1.1 | exact hC.2.2.2.2.2.1.1 | exact hC.2.2.2.2.2.2.1.1 | exact hC.2.2.2.2.2.2.2.1) rfl ?_
        refine V_iv1 47 dX5_wake_47 kvX5_103 rfl (by first | exact hC.1 | exact hC.2.1.1 | exact hC.2.2.1.1 | exact hC.2.2.2.1.1 | exact hC.2.2.2.2.1.1 | exact hC.2.2.2.2.2.1.1 | exact hC.2.2.2.2.2.2.1.1 | exact hC.2.2.2.2.2.2.2.1) rfl rfl (c_X2_keep hC.2.2.2.2.2.2.1 hC.2.2.2.2.1 hC.2.2.1 (Or.inl (by omega)) (by omega) (fun h1 hH hF => ?_))
        replace hC := hC.his hH hF
        replace hFr := hFr.tr (hF.of (by omega) (by omega))
        clear hH hF
        refine V_aload_n 50 dX5_wake_50 rfl ?_
        refine V_get 51 dX5_wake_51 fdX5_31 (by first | exact hC.1 | exact hC.2.1.1 | exact hC.2.2.1.1 | exact hC.2.2.2.1.1 | exact hC.2.2.2.2.1.1 | exact hC.2.2.2.2.2.1.1 | exact hC.2.2.2.2.2.2.1.1 | exact hC.2.2.2.2.2.2.2.1) rfl ?_
        refine V_iconstv 54 (0) dX5_wake_54 (by decide) ?_
        refine V_iv1 55 dX5_wake_55 kvX5_107 rfl (by first | exact hC.1 | exact hC.2.1.1 | exact hC.2.2.1.1 | exact hC.2.2.2.1.1 | exact hC.2.2.2.2.1.1 | exact hC.2.2.2.2.2.1.1 | exact hC.2.2.2.2.2.2.1.1 | exact hC.2.2.2.2.2.2.2.1) rfl rfl (c_X0_sentOf hC.wn ?_)
        refine V_istore_n 58 dX5_wake_58 rfl rfl ?_
        refine V_aload_n 59 dX5_wake_59 rfl ?_
        refine V_get 60 dX5_wake_60 fdX5_31 (by first | exact hC.1 | exact hC.2.1.1 | exact hC.2.2.1.1 | exact hC.2.2.2.1.1 | exact hC.2.2.2.2.1.1 | exact hC.2.2.2.2.2.1.1 | exact hC.2.2.2.2.2.2.1.1 | exact hC.2.2.2.2.2.2.2.1) rfl ?_
        refine V_iload_n 63 dX5_wake_63 rfl ?_
        refine V_iv1 64 dX5_wake_64 kvX5_111 rfl (by first | exact hC.1 | exact hC.2.1.1 | exact hC.2.2.1.1 | exact hC.2.2.2.1.1 | exact hC.2.2.2.2.1.1 | exact hC.2.2.2.2.2.1.1 | exact hC.2.2.2.2.2.2.1.1 | exact hC.2.2.2.2.2.2.2.1) rfl rfl (c_X0_rouse hC.wn (fun h2 hW => ?_))
        have hF := hW.2.2.1
        replace hC := hC.now hW.1 hF
        replace hFr := hFr.tr (hF.of (by omega) (by omega))
        clear hF hW
        refine V_aload_n 67 dX5_wake_67 rfl ?_
        refine V_get 68 dX5_wake_68 fdX5_31 (by first | exact hC.1 | exact hC.2.1.1 | exact hC.2.2.1.1 | exact hC.2.2.2.1.1 | exact hC.2.2.2.2.1.1 | exact hC.2.2.2.2.2.1.1 | exact hC.2.2.2.2.2.2.1.1 | exact hC.2.2.2.2.2.2.2.1) rfl ?_
        refine V_iconstv 71 (0) dX5_wake_71 (by decide) ?_
        refine V_iv1 72 dX5_wake_72 kvX5_107 rfl (by first | exact hC.1 | exact hC.2.1.1 | exact hC.2.2.1.1 | exact hC.2.2.2.1.1 | exact hC.2.2.2.2.1.1 | exact hC.2.2.2.2.2.1.1 | exact hC.2.2.2.2.2.2.1.1 | exact hC.2.2.2.2.2.2.2.1) rfl rfl (c_X0_sentOf hC.wn ?_)
        refine V_iload_n 75 dX5_wake_75 rfl ?_
        refine V_isub 76 dX5_wake_76 ?_
        refine V_iret 77 dX5_wake_77 ?_
        exact k1 c_5 c_18 c_33 _ hC hFr
      · refine V_ldc 36 dX5_wake_36 knX5_91 ?_
        refine V_iret 38 dX5_wake_38 ?_
        first | exact k2 c_5 (fun q => q.1 c_18) | exact k2 c_5 (fun q => c_33 q.2)
    · refine V_if_eq 21 36 dX5_wake_21 rfl (fun _ => ?_) (fun q => absurd q (by decide))
      refine V_ldc 36 dX5_wake_36 knX5_91 ?_
      refine V_iret 38 dX5_wake_38 ?_
      first | exact k2 c_5 (fun q => q.1 c_18) | exact k2 c_5 (fun q => c_33 q.2)
  · refine V_if_ne 8 14 dX5_wake_8 rfl (fun q => absurd q (by decide)) (fun _ => ?_)
    refine V_ldc 11 dX5_wake_11 knX5_95 ?_
    refine V_iret 13 dX5_wake_13 ?_
    exact k0 c_5
set_option maxHeartbeats 1000000 in
set_option maxRecDepth 100000 in
theorem c_X5_deliver (hC : CA G h x X Qp Qd En Et nx hs K S) {w : Int32} (k0 : inb w (2 * Qp.1) = false → Post (some (.int (-1000001))) h sz) (k2 : inb w (2 * Qp.1) = true → bsy En w = false → Post (some (.int (-1000003))) h sz) (k1 : inb w (2 * Qp.1) = true → bsy En w = true → ∀ h1, CA G h1 x X Qp Qd (dlE Qp En w) Et (kpN nx) (kpS hs) (va_up K nx (eH' En (eH (K nx)))) S → Fr x 138 h h1 → Post (some (.int (dlR Qp En w))) h1 sz) : Cn l G yX5_deliver cX5_deliver 2 (some .int) 6 0 0 [.ref x, .int w] h sz Post := by
  refine Cn.of RX5 false (by decide) rfl (fun q => by cases q) (Nat.le_of_ble_eq_true rfl) ?_
  have hFr : Fr x 138 h h := Fr.rf
  refine V_aload_n 0 dX5_deliver_0 rfl ?_
  refine V_get 1 dX5_deliver_1 fdX5_19 (by first | exact hC.1 | exact hC.2.1.1 | exact hC.2.2.1.1 | exact hC.2.2.2.1.1 | exact hC.2.2.2.2.1.1 | exact hC.2.2.2.2.2.1.1 | exact hC.2.2.2.2.2.2.1.1 | exact hC.2.2.2.2.2.2.2.1) rfl ?_
  refine V_iload_n 4 dX5_deliver_4 rfl ?_
  refine V_iv1 5 dX5_deliver_5 kvX5_115 rfl (by first | exact hC.1 | exact hC.2.1.1 | exact hC.2.2.1.1 | exact hC.2.2.2.1.1 | exact hC.2.2.2.2.1.1 | exact hC.2.2.2.2.2.1.1 | exact hC.2.2.2.2.2.2.1.1 | exact hC.2.2.2.2.2.2.2.1) rfl rfl (c_X3_hasLink hC.2.2.1 (fun c_5 => ?_) (fun c_5 => ?_))
  · refine V_if_ne 8 14 dX5_deliver_8 rfl (fun _ => ?_) (fun q => absurd q (by decide))
    refine V_aload_n 14 dX5_deliver_14 rfl ?_
    refine V_get 15 dX5_deliver_15 fdX5_31 (by first | exact hC.1 | exact hC.2.1.1 | exact hC.2.2.1.1 | exact hC.2.2.2.1.1 | exact hC.2.2.2.2.1.1 | exact hC.2.2.2.2.2.1.1 | exact hC.2.2.2.2.2.2.1.1 | exact hC.2.2.2.2.2.2.2.1) rfl ?_
    refine V_iload_n 18 dX5_deliver_18 rfl ?_
    refine V_iv1 19 dX5_deliver_19 kvX5_118 rfl (by first | exact hC.1 | exact hC.2.1.1 | exact hC.2.2.1.1 | exact hC.2.2.2.1.1 | exact hC.2.2.2.2.1.1 | exact hC.2.2.2.2.2.1.1 | exact hC.2.2.2.2.2.2.1.1 | exact hC.2.2.2.2.2.2.2.1) rfl rfl (c_X0_isBusy hC.wn (fun c_19 => ?_) (fun c_19 => ?_))
    · refine V_if_ne 22 28 dX5_deliver_22 rfl (fun _ => ?_) (fun q => absurd q (by decide))
      refine V_aload_n 28 dX5_deliver_28 rfl ?_
      refine V_get 29 dX5_deliver_29 fdX5_41 (by first | exact hC.1 | exact hC.2.1.1 | exact hC.2.2.1.1 | exact hC.2.2.2.1.1 | exact hC.2.2.2.2.1.1 | exact hC.2.2.2.2.2.1.1 | exact hC.2.2.2.2.2.2.1.1 | exact hC.2.2.2.2.2.2.2.1) rfl ?_
      refine V_aload_n 32 dX5_deliver_32 rfl ?_
      refine V_get 33 dX5_deliver_33 fdX5_31 (by first | exact hC.1 | exact hC.2.1.1 | exact hC.2.2.1.1 | exact hC.2.2.2.1.1 | exact hC.2.2.2.2.1.1 | exact hC.2.2.2.2.2.1.1 | exact hC.2.2.2.2.2.2.1.1 | exact hC.2.2.2.2.2.2.2.1) rfl ?_
      refine V_iv1 36 dX5_deliver_36 kvX5_103 rfl (by first | exact hC.1 | exact hC.2.1.1 | exact hC.2.2.1.1 | exact hC.2.2.2.1.1 | exact hC.2.2.2.2.1.1 | exact hC.2.2.2.2.2.1.1 | exact hC.2.2.2.2.2.2.1.1 | exact hC.2.2.2.2.2.2.2.1) rfl rfl (c_X2_keep hC.2.2.2.2.2.2.1 hC.2.2.2.2.1 hC.2.2.1 (Or.inl (by omega)) (by omega) (fun h1 hH hF => ?_))
      replace hC := hC.his hH hF
      replace hFr := hFr.tr (hF.of (by omega) (by omega))
      clear hH hF
      refine V_aload_n 39 dX5_deliver_39 rfl ?_
      refine V_get 40 dX5_deliver_40 fdX5_31 (by first | exact hC.1 | exact hC.2.1.1 | exact hC.2.2.1.1 | exact hC.2.2.2.1.1 | exact hC.2.2.2.2.1.1 | exact hC.2.2.2.2.2.1.1 | exact hC.2.2.2.2.2.2.1.1 | exact hC.2.2.2.2.2.2.2.1) rfl ?_
      refine V_iload_n 43 dX5_deliver_43 rfl ?_
      refine V_iv1 44 dX5_deliver_44 kvX5_121 rfl (by first | exact hC.1 | exact hC.2.1.1 | exact hC.2.2.1.1 | exact hC.2.2.2.1.1 | exact hC.2.2.2.2.1.1 | exact hC.2.2.2.2.2.1.1 | exact hC.2.2.2.2.2.2.1.1 | exact hC.2.2.2.2.2.2.2.1) rfl rfl (c_X0_deliverFrom hC.wn (fun h2 hW => ?_))
      have hF := hW.2.2.1
      replace hC := hC.now hW.1 hF
      replace hFr := hFr.tr (hF.of (by omega) (by omega))
      clear hF hW
      refine V_iret 47 dX5_deliver_47 ?_
      exact k1 c_5 c_19 _ hC hFr
    · refine V_if_ne 22 28 dX5_deliver_22 rfl (fun q => absurd q (by decide)) (fun _ => ?_)
      refine V_ldc 25 dX5_deliver_25 knX5_91 ?_
      refine V_iret 27 dX5_deliver_27 ?_
      exact k2 c_5 c_19
  · refine V_if_ne 8 14 dX5_deliver_8 rfl (fun q => absurd q (by decide)) (fun _ => ?_)
    refine V_ldc 11 dX5_deliver_11 knX5_95 ?_
    refine V_iret 13 dX5_deliver_13 ?_
    exact k0 c_5
set_option maxHeartbeats 1000000 in
set_option maxRecDepth 100000 in
theorem c_X5_run (hC : CA G h x X Qp Qd En Et nx hs K S) {a b c : Int32} (k0 : ¬ (okOrd a b ∧ (0 ≤ c ∧ c ≤ 200)) → Post (some (.int (-1000002))) h sz) (k2 : (okOrd a b ∧ (0 ≤ c ∧ c ≤ 200)) → eW En = 0 → Post (some (.int (-1000003))) h sz) (k3 : (okOrd a b ∧ (0 ≤ c ∧ c ≤ 200)) → ¬ eW En = 0 → (c = 0 ∨ eN En = 0) → Post (some (.int 0)) h sz) (k1 : (okOrd a b ∧ (0 ≤ c ∧ c ≤ 200)) → ¬ eW En = 0 → ¬ eN En = 0 → ∀ M, c = nI M → 1 ≤ M → M ≤ 200 → ∀ h1, CA G h1 x X Qp Qd (dmE Qp a M 0 b En).2 Et (kpN nx) (kpS hs) (va_up K nx (eH' En (eH (K nx)))) S → Fr x 138 h h1 → Post (some (.int (nI (dmE Qp a M 0 b En).1))) h1 sz) : Cn l G yX5_run cX5_run 4 (some .int) 7 0 0 [.ref x, .int a, .int b, .int c] h sz Post := by
  refine Cn.of RX5 false (by decide) rfl (fun q => by cases q) (Nat.le_of_ble_eq_true rfl) ?_
  have hFr : Fr x 138 h h := Fr.rf
  have hn := hC.2.2.2.2.1.2.2.2.2.2.1
  refine V_iload_n 0 dX5_run_0 rfl ?_
  refine V_iconstv 1 (0) dX5_run_1 (by decide) ?_
  refine V_iconstv 2 (3) dX5_run_2 (by decide) ?_
  refine V_is3 3 dX5_run_3 ksX5_52 rfl rfl (c_X5_within (fun c_3 => ?_) (fun c_3 => ?_))
  · refine V_if_eq 6 30 dX5_run_6 rfl (fun q => absurd q (by decide)) (fun _ => ?_)
    refine V_iload_n 9 dX5_run_9 rfl ?_
    refine V_iconstv 10 (1) dX5_run_10 (by decide) ?_
    refine V_ldc 11 dX5_run_11 knX5_86 ?_
    refine V_is3 13 dX5_run_13 ksX5_52 rfl rfl (c_X5_within (fun c_13 => ?_) (fun c_13 => ?_))
    · refine V_if_eq 16 30 dX5_run_16 rfl (fun q => absurd q (by decide)) (fun _ => ?_)
      refine V_iload_n 19 dX5_run_19 rfl ?_
      refine V_iconstv 20 (0) dX5_run_20 (by decide) ?_
      refine V_sipushv 21 (200) dX5_run_21 (by decide) ?_
      refine V_is3 24 dX5_run_24 ksX5_52 rfl rfl (c_X5_within (fun c_24 => ?_) (fun c_24 => ?_))
      · refine V_if_ne 27 33 dX5_run_27 rfl (fun _ => ?_) (fun q => absurd q (by decide))
        refine V_aload_n 33 dX5_run_33 rfl ?_
        refine V_get 34 dX5_run_34 fdX5_31 (by first | exact hC.1 | exact hC.2.1.1 | exact hC.2.2.1.1 | exact hC.2.2.2.1.1 | exact hC.2.2.2.2.1.1 | exact hC.2.2.2.2.2.1.1 | exact hC.2.2.2.2.2.2.1.1 | exact hC.2.2.2.2.2.2.2.1) rfl ?_
        refine V_iv0 37 dX5_run_37 kvX5_96 rfl (by first | exact hC.1 | exact hC.2.1.1 | exact hC.2.2.1.1 | exact hC.2.2.2.1.1 | exact hC.2.2.2.2.1.1 | exact hC.2.2.2.2.2.1.1 | exact hC.2.2.2.2.2.2.1.1 | exact hC.2.2.2.2.2.2.2.1) rfl rfl (c_X0_isBegun hC.wn (fun c_37 => ?_) (fun c_37 => ?_))
        · refine V_if_ne 40 46 dX5_run_40 rfl (fun _ => ?_) (fun q => absurd q (by decide))
          refine V_iload_n 46 dX5_run_46 rfl ?_
          refine V_if_eq 47 60 dX5_run_47 rfl (fun c_47 => ?_) (fun c_47 => ?_)
          · refine V_iconstv 60 (0) dX5_run_60 (by decide) ?_
            refine V_iret 61 dX5_run_61 ?_
            first | exact k3 ⟨⟨c_3, c_13⟩, c_24⟩ c_37 (Or.inl c_47) | exact k3 ⟨⟨c_3, c_13⟩, c_24⟩ c_37 (Or.inr e_57)
          · refine V_aload_n 50 dX5_run_50 rfl ?_
            refine V_get 51 dX5_run_51 fdX5_31 (by first | exact hC.1 | exact hC.2.1.1 | exact hC.2.2.1.1 | exact hC.2.2.2.1.1 | exact hC.2.2.2.2.1.1 | exact hC.2.2.2.2.2.1.1 | exact hC.2.2.2.2.2.2.1.1 | exact hC.2.2.2.2.2.2.2.1) rfl ?_
            refine V_get 54 dX5_run_54 fdX5_124 (by first | exact hC.1 | exact hC.2.1.1 | exact hC.2.2.1.1 | exact hC.2.2.2.1.1 | exact hC.2.2.2.2.1.1 | exact hC.2.2.2.2.2.1.1 | exact hC.2.2.2.2.2.2.1.1 | exact hC.2.2.2.2.2.2.2.1) rfl ?_
            refine V_if_ne 57 62 dX5_run_57 rfl (fun c_57 => ?_) (fun c_57 => ?_)
            · have e_57 : ¬ eN En = 0 := fun q => c_57 (by show nI (eN En) = 0; rw [q]; rfl)
              obtain ⟨M, hM, rfl⟩ := nI_of2 (M := 200) (n := 200) rfl (Int32.not_lt.mpr c_24.1) c_24.2
              have hM1 : 1 ≤ M := Nat.pos_of_ne_zero (fun q => c_47 (by rw [q]; rfl))
              refine V_aload_n 62 dX5_run_62 rfl ?_
              refine V_get 63 dX5_run_63 fdX5_41 (by first | exact hC.1 | exact hC.2.1.1 | exact hC.2.2.1.1 | exact hC.2.2.2.1.1 | exact hC.2.2.2.2.1.1 | exact hC.2.2.2.2.2.1.1 | exact hC.2.2.2.2.2.2.1.1 | exact hC.2.2.2.2.2.2.2.1) rfl ?_
              refine V_aload_n 66 dX5_run_66 rfl ?_
              refine V_get 67 dX5_run_67 fdX5_31 (by first | exact hC.1 | exact hC.2.1.1 | exact hC.2.2.1.1 | exact hC.2.2.2.1.1 | exact hC.2.2.2.2.1.1 | exact hC.2.2.2.2.2.1.1 | exact hC.2.2.2.2.2.2.1.1 | exact hC.2.2.2.2.2.2.2.1) rfl ?_
              refine V_iv1 70 dX5_run_70 kvX5_103 rfl (by first | exact hC.1 | exact hC.2.1.1 | exact hC.2.2.1.1 | exact hC.2.2.2.1.1 | exact hC.2.2.2.2.1.1 | exact hC.2.2.2.2.2.1.1 | exact hC.2.2.2.2.2.2.1.1 | exact hC.2.2.2.2.2.2.2.1) rfl rfl (c_X2_keep hC.2.2.2.2.2.2.1 hC.2.2.2.2.1 hC.2.2.1 (Or.inl (by omega)) (by omega) (fun h1 hH hF => ?_))
              replace hC := hC.his hH hF
              replace hFr := hFr.tr (hF.of (by omega) (by omega))
              clear hH hF
              refine V_aload_n 73 dX5_run_73 rfl ?_
              refine V_get 74 dX5_run_74 fdX5_31 (by first | exact hC.1 | exact hC.2.1.1 | exact hC.2.2.1.1 | exact hC.2.2.2.1.1 | exact hC.2.2.2.2.1.1 | exact hC.2.2.2.2.2.1.1 | exact hC.2.2.2.2.2.2.1.1 | exact hC.2.2.2.2.2.2.2.1) rfl ?_
              refine V_iload_n 77 dX5_run_77 rfl ?_
              refine V_iload_n 78 dX5_run_78 rfl ?_
              refine V_iload_n 79 dX5_run_79 rfl ?_
              refine V_iv3 80 dX5_run_80 kvX5_127 rfl (by first | exact hC.1 | exact hC.2.1.1 | exact hC.2.2.1.1 | exact hC.2.2.2.1.1 | exact hC.2.2.2.2.1.1 | exact hC.2.2.2.2.2.1.1 | exact hC.2.2.2.2.2.2.1.1 | exact hC.2.2.2.2.2.2.2.1) rfl rfl (c_X0_deliverMany hC.wn M (by omega) (fun h2 hW => ?_))
              have hF := hW.2.2.1
              replace hC := hC.now hW.1 hF
              replace hFr := hFr.tr (hF.of (by omega) (by omega))
              clear hF hW
              refine V_iret 83 dX5_run_83 ?_
              exact k1 ⟨⟨c_3, c_13⟩, c_24⟩ c_37 e_57 M rfl hM1 hM _ hC hFr
            · have e_57 : eN En = 0 := (nI_eq (b := 0) (by omega) (by decide)).mp c_57
              refine V_iconstv 60 (0) dX5_run_60 (by decide) ?_
              refine V_iret 61 dX5_run_61 ?_
              first | exact k3 ⟨⟨c_3, c_13⟩, c_24⟩ c_37 (Or.inl c_47) | exact k3 ⟨⟨c_3, c_13⟩, c_24⟩ c_37 (Or.inr e_57)
        · refine V_if_ne 40 46 dX5_run_40 rfl (fun q => absurd q (by decide)) (fun _ => ?_)
          refine V_ldc 43 dX5_run_43 knX5_91 ?_
          refine V_iret 45 dX5_run_45 ?_
          exact k2 ⟨⟨c_3, c_13⟩, c_24⟩ c_37
      · refine V_if_ne 27 33 dX5_run_27 rfl (fun q => absurd q (by decide)) (fun _ => ?_)
        refine V_ldc 30 dX5_run_30 knX5_56 ?_
        refine V_iret 32 dX5_run_32 ?_
        first | exact k0 (fun q => c_3 q.1.1) | exact k0 (fun q => c_13 q.1.2) | exact k0 (fun q => c_24 q.2)
    · refine V_if_eq 16 30 dX5_run_16 rfl (fun _ => ?_) (fun q => absurd q (by decide))
      refine V_ldc 30 dX5_run_30 knX5_56 ?_
      refine V_iret 32 dX5_run_32 ?_
      first | exact k0 (fun q => c_3 q.1.1) | exact k0 (fun q => c_13 q.1.2) | exact k0 (fun q => c_24 q.2)
  · refine V_if_eq 6 30 dX5_run_6 rfl (fun _ => ?_) (fun q => absurd q (by decide))
    refine V_ldc 30 dX5_run_30 knX5_56 ?_
    refine V_iret 32 dX5_run_32 ?_
    first | exact k0 (fun q => c_3 q.1.1) | exact k0 (fun q => c_13 q.1.2) | exact k0 (fun q => c_24 q.2)
set_option maxHeartbeats 1000000 in
set_option maxRecDepth 100000 in
theorem c_X5_undo (hC : CA G h x X Qp Qd En Et nx hs K S) (k0 : hs = 0 → Post (some (.int (-1000003))) h sz) (k1 : ¬ hs = 0 → ∀ h1, CA G h1 x X Qp Qd (eH' (K (kpL nx)) (eH En)) Et (kpL nx) (hs - 1) K S → Fr x 138 h h1 → Post (some (.int (nI (hs - 1)))) h1 sz) : Cn l G yX5_undo cX5_undo 1 (some .int) 3 0 0 [.ref x] h sz Post := by
  refine Cn.of RX5 false (by decide) rfl (fun q => by cases q) (Nat.le_of_ble_eq_true rfl) ?_
  have hFr : Fr x 138 h h := Fr.rf
  refine V_aload_n 0 dX5_undo_0 rfl ?_
  refine V_get 1 dX5_undo_1 fdX5_41 (by first | exact hC.1 | exact hC.2.1.1 | exact hC.2.2.1.1 | exact hC.2.2.2.1.1 | exact hC.2.2.2.2.1.1 | exact hC.2.2.2.2.2.1.1 | exact hC.2.2.2.2.2.2.1.1 | exact hC.2.2.2.2.2.2.2.1) rfl ?_
  refine V_aload_n 4 dX5_undo_4 rfl ?_
  refine V_get 5 dX5_undo_5 fdX5_31 (by first | exact hC.1 | exact hC.2.1.1 | exact hC.2.2.1.1 | exact hC.2.2.2.1.1 | exact hC.2.2.2.2.1.1 | exact hC.2.2.2.2.2.1.1 | exact hC.2.2.2.2.2.2.1.1 | exact hC.2.2.2.2.2.2.2.1) rfl ?_
  refine V_iv1 8 dX5_undo_8 kvX5_131 rfl hC.2.2.2.2.2.2.1.1 rfl rfl (c_X2_giveBack hC.2.2.2.2.2.2.1 hC.2.2.2.2.1 hC.2.2.1 (Or.inl (by omega)) (by omega) (Or.inl (by omega)) (fun c_a h1 hH hE hF => ?_) (fun c_a => ?_))
  · replace hFr := hFr.tr (hF.fr (o := x) (n := 138) (fun a q => by omega))
    obtain ⟨c1, c2, c3, c4, c5, c6, c7, c8⟩ := hC
    have hC : CA G h1 x X Qp Qd (eH' (K (kpL nx)) (eH En)) Et (kpL nx) (hs - 1) K S := ⟨by rw [hF _ (by omega)]; exact c1, c2.frP hF (fun a h1 h2 q => by omega), c3.frP hF (fun a h1 h2 q => by omega), c4.frP hF (fun a h1 h2 q => by omega), hE, c6.frP hF (fun a h1 h2 q => by omega), hH, c8.frP hF (fun a h1 h2 q => by omega)⟩
    refine V_if_ne 11 17 dX5_undo_11 rfl (fun _ => ?_) (fun q => absurd q (by decide))
    refine V_aload_n 17 dX5_undo_17 rfl ?_
    refine V_get 18 dX5_undo_18 fdX5_41 (by first | exact hC.1 | exact hC.2.1.1 | exact hC.2.2.1.1 | exact hC.2.2.2.1.1 | exact hC.2.2.2.2.1.1 | exact hC.2.2.2.2.2.1.1 | exact hC.2.2.2.2.2.2.1.1 | exact hC.2.2.2.2.2.2.2.1) rfl ?_
    refine V_get 21 dX5_undo_21 fdX5_135 (by first | exact hC.1 | exact hC.2.1.1 | exact hC.2.2.1.1 | exact hC.2.2.2.1.1 | exact hC.2.2.2.2.1.1 | exact hC.2.2.2.2.2.1.1 | exact hC.2.2.2.2.2.2.1.1 | exact hC.2.2.2.2.2.2.2.1) rfl ?_
    refine V_iret 24 dX5_undo_24 ?_
    exact k1 c_a _ hC hFr
  · refine V_if_ne 11 17 dX5_undo_11 rfl (fun q => absurd q (by decide)) (fun _ => ?_)
    refine V_ldc 14 dX5_undo_14 knX5_91 ?_
    refine V_iret 16 dX5_undo_16 ?_
    exact k0 c_a
set_option maxHeartbeats 1000000 in
set_option maxRecDepth 100000 in
theorem c_X5_contender (hC : CA G h x X Qp Qd En Et nx hs K S) {w y : Int32} (k0 : inb w Qp.1 = false → Post (some (.int (-1000001))) h sz) (k1 : inb w Qp.1 = true → Post (some (.int (ctdR Qp En w y))) h sz) : Cn l G yX5_contender cX5_contender 3 (some .int) 2 0 0 [.ref x, .int w, .int y] h sz Post := by
  refine Cn.of RX5 false (by decide) rfl (fun q => by cases q) (Nat.le_of_ble_eq_true rfl) ?_
  have hFr : Fr x 138 h h := Fr.rf
  refine V_aload_n 0 dX5_contender_0 rfl ?_
  refine V_get 1 dX5_contender_1 fdX5_19 (by first | exact hC.1 | exact hC.2.1.1 | exact hC.2.2.1.1 | exact hC.2.2.2.1.1 | exact hC.2.2.2.2.1.1 | exact hC.2.2.2.2.2.1.1 | exact hC.2.2.2.2.2.2.1.1 | exact hC.2.2.2.2.2.2.2.1) rfl ?_
  refine V_iload_n 4 dX5_contender_4 rfl ?_
  refine V_iv1 5 dX5_contender_5 kvX5_92 rfl (by first | exact hC.1 | exact hC.2.1.1 | exact hC.2.2.1.1 | exact hC.2.2.2.1.1 | exact hC.2.2.2.2.1.1 | exact hC.2.2.2.2.2.1.1 | exact hC.2.2.2.2.2.2.1.1 | exact hC.2.2.2.2.2.2.2.1) rfl rfl (c_X3_hasContender hC.2.2.1 (fun c_5 => ?_) (fun c_5 => ?_))
  · refine V_if_ne 8 14 dX5_contender_8 rfl (fun _ => ?_) (fun q => absurd q (by decide))
    refine V_iload_n 14 dX5_contender_14 rfl ?_
    by_cases sw15_0 : y = 0
    · refine V_tableIn 15 56 (41) dX5_contender_15 (by rw [sw15_0]; decide) (by rw [sw15_0]; decide) (by rw [sw15_0]; rfl) rfl ?_
      refine V_aload_n 56 dX5_contender_56 rfl ?_
      refine V_get 57 dX5_contender_57 fdX5_19 (by first | exact hC.1 | exact hC.2.1.1 | exact hC.2.2.1.1 | exact hC.2.2.2.1.1 | exact hC.2.2.2.2.1.1 | exact hC.2.2.2.2.2.1.1 | exact hC.2.2.2.2.2.2.1.1 | exact hC.2.2.2.2.2.2.2.1) rfl ?_
      refine V_iload_n 60 dX5_contender_60 rfl ?_
      refine V_iv1 61 dX5_contender_61 kvX5_136 rfl (by first | exact hC.1 | exact hC.2.1.1 | exact hC.2.2.1.1 | exact hC.2.2.2.1.1 | exact hC.2.2.2.2.1.1 | exact hC.2.2.2.2.2.1.1 | exact hC.2.2.2.2.2.2.1.1 | exact hC.2.2.2.2.2.2.2.1) rfl rfl (c_X3_nameOf hC.2.2.1 ?_)
      refine V_iret 64 dX5_contender_64 ?_
      have K := k1 c_5
      unfold ctdR at K
      rw [if_pos sw15_0] at K
      exact K
    by_cases sw15_1 : y = 1
    · refine V_tableIn 15 65 (50) dX5_contender_15 (by rw [sw15_1]; decide) (by rw [sw15_1]; decide) (by rw [sw15_1]; rfl) rfl ?_
      refine V_aload_n 65 dX5_contender_65 rfl ?_
      refine V_get 66 dX5_contender_66 fdX5_31 (by first | exact hC.1 | exact hC.2.1.1 | exact hC.2.2.1.1 | exact hC.2.2.2.1.1 | exact hC.2.2.2.2.1.1 | exact hC.2.2.2.2.2.1.1 | exact hC.2.2.2.2.2.2.1.1 | exact hC.2.2.2.2.2.2.2.1) rfl ?_
      refine V_iload_n 69 dX5_contender_69 rfl ?_
      refine V_iconstv 70 (1) dX5_contender_70 (by decide) ?_
      refine V_iv2 71 dX5_contender_71 kvX5_99 rfl (by first | exact hC.1 | exact hC.2.1.1 | exact hC.2.2.1.1 | exact hC.2.2.2.1.1 | exact hC.2.2.2.2.1.1 | exact hC.2.2.2.2.2.1.1 | exact hC.2.2.2.2.2.2.1.1 | exact hC.2.2.2.2.2.2.2.1) rfl rfl (c_X0_cell hC.wn ?_)
      refine V_iret 74 dX5_contender_74 ?_
      have K := k1 c_5
      unfold ctdR at K
      rw [if_neg sw15_0, if_pos sw15_1] at K
      exact K
    by_cases sw15_2 : y = 2
    · refine V_tableIn 15 75 (60) dX5_contender_15 (by rw [sw15_2]; decide) (by rw [sw15_2]; decide) (by rw [sw15_2]; rfl) rfl ?_
      refine V_aload_n 75 dX5_contender_75 rfl ?_
      refine V_get 76 dX5_contender_76 fdX5_31 (by first | exact hC.1 | exact hC.2.1.1 | exact hC.2.2.1.1 | exact hC.2.2.2.1.1 | exact hC.2.2.2.2.1.1 | exact hC.2.2.2.2.2.1.1 | exact hC.2.2.2.2.2.2.1.1 | exact hC.2.2.2.2.2.2.2.1) rfl ?_
      refine V_iload_n 79 dX5_contender_79 rfl ?_
      refine V_iconstv 80 (0) dX5_contender_80 (by decide) ?_
      refine V_iv2 81 dX5_contender_81 kvX5_99 rfl (by first | exact hC.1 | exact hC.2.1.1 | exact hC.2.2.1.1 | exact hC.2.2.2.1.1 | exact hC.2.2.2.2.1.1 | exact hC.2.2.2.2.2.1.1 | exact hC.2.2.2.2.2.2.1.1 | exact hC.2.2.2.2.2.2.2.1) rfl rfl (c_X0_cell hC.wn ?_)
      refine V_iret 84 dX5_contender_84 ?_
      have K := k1 c_5
      unfold ctdR at K
      rw [if_neg sw15_0, if_neg sw15_1, if_pos sw15_2] at K
      exact K
    by_cases sw15_3 : y = 3
    · refine V_tableIn 15 85 (70) dX5_contender_15 (by rw [sw15_3]; decide) (by rw [sw15_3]; decide) (by rw [sw15_3]; rfl) rfl ?_
      refine V_aload_n 85 dX5_contender_85 rfl ?_
      refine V_get 86 dX5_contender_86 fdX5_31 (by first | exact hC.1 | exact hC.2.1.1 | exact hC.2.2.1.1 | exact hC.2.2.2.1.1 | exact hC.2.2.2.2.1.1 | exact hC.2.2.2.2.2.1.1 | exact hC.2.2.2.2.2.2.1.1 | exact hC.2.2.2.2.2.2.2.1) rfl ?_
      refine V_iload_n 89 dX5_contender_89 rfl ?_
      refine V_iconstv 90 (2) dX5_contender_90 (by decide) ?_
      refine V_iv2 91 dX5_contender_91 kvX5_99 rfl (by first | exact hC.1 | exact hC.2.1.1 | exact hC.2.2.1.1 | exact hC.2.2.2.1.1 | exact hC.2.2.2.2.1.1 | exact hC.2.2.2.2.2.1.1 | exact hC.2.2.2.2.2.2.1.1 | exact hC.2.2.2.2.2.2.2.1) rfl rfl (c_X0_cell hC.wn ?_)
      refine V_iret 94 dX5_contender_94 ?_
      have K := k1 c_5
      unfold ctdR at K
      rw [if_neg sw15_0, if_neg sw15_1, if_neg sw15_2, if_pos sw15_3] at K
      exact K
    by_cases sw15_4 : y = 4
    · refine V_tableIn 15 95 (80) dX5_contender_15 (by rw [sw15_4]; decide) (by rw [sw15_4]; decide) (by rw [sw15_4]; rfl) rfl ?_
      refine V_aload_n 95 dX5_contender_95 rfl ?_
      refine V_get 96 dX5_contender_96 fdX5_31 (by first | exact hC.1 | exact hC.2.1.1 | exact hC.2.2.1.1 | exact hC.2.2.2.1.1 | exact hC.2.2.2.2.1.1 | exact hC.2.2.2.2.2.1.1 | exact hC.2.2.2.2.2.2.1.1 | exact hC.2.2.2.2.2.2.2.1) rfl ?_
      refine V_iload_n 99 dX5_contender_99 rfl ?_
      refine V_iconstv 100 (3) dX5_contender_100 (by decide) ?_
      refine V_iv2 101 dX5_contender_101 kvX5_99 rfl (by first | exact hC.1 | exact hC.2.1.1 | exact hC.2.2.1.1 | exact hC.2.2.2.1.1 | exact hC.2.2.2.2.1.1 | exact hC.2.2.2.2.2.1.1 | exact hC.2.2.2.2.2.2.1.1 | exact hC.2.2.2.2.2.2.2.1) rfl rfl (c_X0_cell hC.wn ?_)
      refine V_iret 104 dX5_contender_104 ?_
      have K := k1 c_5
      unfold ctdR at K
      rw [if_neg sw15_0, if_neg sw15_1, if_neg sw15_2, if_neg sw15_3, if_pos sw15_4] at K
      exact K
    by_cases sw15_5 : y = 5
    · refine V_tableIn 15 105 (90) dX5_contender_15 (by rw [sw15_5]; decide) (by rw [sw15_5]; decide) (by rw [sw15_5]; rfl) rfl ?_
      refine V_aload_n 105 dX5_contender_105 rfl ?_
      refine V_get 106 dX5_contender_106 fdX5_31 (by first | exact hC.1 | exact hC.2.1.1 | exact hC.2.2.1.1 | exact hC.2.2.2.1.1 | exact hC.2.2.2.2.1.1 | exact hC.2.2.2.2.2.1.1 | exact hC.2.2.2.2.2.2.1.1 | exact hC.2.2.2.2.2.2.2.1) rfl ?_
      refine V_iload_n 109 dX5_contender_109 rfl ?_
      refine V_iconstv 110 (4) dX5_contender_110 (by decide) ?_
      refine V_iv2 111 dX5_contender_111 kvX5_99 rfl (by first | exact hC.1 | exact hC.2.1.1 | exact hC.2.2.1.1 | exact hC.2.2.2.1.1 | exact hC.2.2.2.2.1.1 | exact hC.2.2.2.2.2.1.1 | exact hC.2.2.2.2.2.2.1.1 | exact hC.2.2.2.2.2.2.2.1) rfl rfl (c_X0_cell hC.wn ?_)
      refine V_iret 114 dX5_contender_114 ?_
      have K := k1 c_5
      unfold ctdR at K
      rw [if_neg sw15_0, if_neg sw15_1, if_neg sw15_2, if_neg sw15_3, if_neg sw15_4, if_pos sw15_5] at K
      exact K
    by_cases sw15_6 : y = 6
    · refine V_tableIn 15 115 (100) dX5_contender_15 (by rw [sw15_6]; decide) (by rw [sw15_6]; decide) (by rw [sw15_6]; rfl) rfl ?_
      refine V_aload_n 115 dX5_contender_115 rfl ?_
      refine V_get 116 dX5_contender_116 fdX5_31 (by first | exact hC.1 | exact hC.2.1.1 | exact hC.2.2.1.1 | exact hC.2.2.2.1.1 | exact hC.2.2.2.2.1.1 | exact hC.2.2.2.2.2.1.1 | exact hC.2.2.2.2.2.2.1.1 | exact hC.2.2.2.2.2.2.2.1) rfl ?_
      refine V_iload_n 119 dX5_contender_119 rfl ?_
      refine V_iconstv 120 (5) dX5_contender_120 (by decide) ?_
      refine V_iv2 121 dX5_contender_121 kvX5_99 rfl (by first | exact hC.1 | exact hC.2.1.1 | exact hC.2.2.1.1 | exact hC.2.2.2.1.1 | exact hC.2.2.2.2.1.1 | exact hC.2.2.2.2.2.1.1 | exact hC.2.2.2.2.2.2.1.1 | exact hC.2.2.2.2.2.2.2.1) rfl rfl (c_X0_cell hC.wn ?_)
      refine V_iret 124 dX5_contender_124 ?_
      have K := k1 c_5
      unfold ctdR at K
      rw [if_neg sw15_0, if_neg sw15_1, if_neg sw15_2, if_neg sw15_3, if_neg sw15_4, if_neg sw15_5, if_pos sw15_6] at K
      exact K
    have tq0 : ¬ y.toInt = 0 := fun q => sw15_0 (Int32.toInt_inj.mp q)
    have tq1 : ¬ y.toInt = 1 := fun q => sw15_1 (Int32.toInt_inj.mp q)
    have tq2 : ¬ y.toInt = 2 := fun q => sw15_2 (Int32.toInt_inj.mp q)
    have tq3 : ¬ y.toInt = 3 := fun q => sw15_3 (Int32.toInt_inj.mp q)
    have tq4 : ¬ y.toInt = 4 := fun q => sw15_4 (Int32.toInt_inj.mp q)
    have tq5 : ¬ y.toInt = 5 := fun q => sw15_5 (Int32.toInt_inj.mp q)
    have tq6 : ¬ y.toInt = 6 := fun q => sw15_6 (Int32.toInt_inj.mp q)
    refine V_tableOut 15 125 dX5_contender_15 (by omega) rfl ?_
    refine V_ldc 125 dX5_contender_125 knX5_56 ?_
    refine V_iret 127 dX5_contender_127 ?_
    have K := k1 c_5
    unfold ctdR at K
    rw [if_neg sw15_0, if_neg sw15_1, if_neg sw15_2, if_neg sw15_3, if_neg sw15_4, if_neg sw15_5, if_neg sw15_6] at K
    exact K
  · refine V_if_ne 8 14 dX5_contender_8 rfl (fun q => absurd q (by decide)) (fun _ => ?_)
    refine V_ldc 11 dX5_contender_11 knX5_95 ?_
    refine V_iret 13 dX5_contender_13 ?_
    exact k0 c_5
set_option maxHeartbeats 1000000 in
set_option maxRecDepth 100000 in
theorem c_X5_link (hC : CA G h x X Qp Qd En Et nx hs K S) {w : Int32} (k0 : inb w (2 * Qp.1) = false → Post (some (.int (-1000001))) h sz) (k1 : inb w (2 * Qp.1) = true → Post (some (.int (nI (loE En w)))) h sz) : Cn l G yX5_link cX5_link 2 (some .int) 2 0 0 [.ref x, .int w] h sz Post := by
  refine Cn.of RX5 false (by decide) rfl (fun q => by cases q) (Nat.le_of_ble_eq_true rfl) ?_
  have hFr : Fr x 138 h h := Fr.rf
  refine V_aload_n 0 dX5_link_0 rfl ?_
  refine V_get 1 dX5_link_1 fdX5_19 (by first | exact hC.1 | exact hC.2.1.1 | exact hC.2.2.1.1 | exact hC.2.2.2.1.1 | exact hC.2.2.2.2.1.1 | exact hC.2.2.2.2.2.1.1 | exact hC.2.2.2.2.2.2.1.1 | exact hC.2.2.2.2.2.2.2.1) rfl ?_
  refine V_iload_n 4 dX5_link_4 rfl ?_
  refine V_iv1 5 dX5_link_5 kvX5_115 rfl (by first | exact hC.1 | exact hC.2.1.1 | exact hC.2.2.1.1 | exact hC.2.2.2.1.1 | exact hC.2.2.2.2.1.1 | exact hC.2.2.2.2.2.1.1 | exact hC.2.2.2.2.2.2.1.1 | exact hC.2.2.2.2.2.2.2.1) rfl rfl (c_X3_hasLink hC.2.2.1 (fun c_5 => ?_) (fun c_5 => ?_))
  · refine V_if_eq 8 22 dX5_link_8 rfl (fun q => absurd q (by decide)) (fun _ => ?_)
    refine V_aload_n 11 dX5_link_11 rfl ?_
    refine V_get 12 dX5_link_12 fdX5_31 (by first | exact hC.1 | exact hC.2.1.1 | exact hC.2.2.1.1 | exact hC.2.2.2.1.1 | exact hC.2.2.2.2.1.1 | exact hC.2.2.2.2.2.1.1 | exact hC.2.2.2.2.2.2.1.1 | exact hC.2.2.2.2.2.2.2.1) rfl ?_
    refine V_iload_n 15 dX5_link_15 rfl ?_
    refine V_iv1 16 dX5_link_16 kvX5_139 rfl (by first | exact hC.1 | exact hC.2.1.1 | exact hC.2.2.1.1 | exact hC.2.2.2.1.1 | exact hC.2.2.2.2.1.1 | exact hC.2.2.2.2.2.1.1 | exact hC.2.2.2.2.2.2.1.1 | exact hC.2.2.2.2.2.2.2.1) rfl rfl (c_X0_lettersOn hC.wn ?_)
    refine V_goto 19 24 dX5_link_19 rfl ?_
    refine V_iret 24 dX5_link_24 ?_
    first | exact k0 c_5 | exact k1 c_5
  · refine V_if_eq 8 22 dX5_link_8 rfl (fun _ => ?_) (fun q => absurd q (by decide))
    refine V_ldc 22 dX5_link_22 knX5_95 ?_
    refine V_iret 24 dX5_link_24 ?_
    first | exact k0 c_5 | exact k1 c_5
set_option maxHeartbeats 1000000 in
set_option maxRecDepth 100000 in
theorem c_X5_letter (hC : CA G h x X Qp Qd En Et nx hs K S) {w i y : Int32} (k0 : inb w (2 * Qp.1) = false → Post (some (.int (-1000001))) h sz) (k2 : inb w (2 * Qp.1) = true → plE En w i = -1 → Post (some (.int (-1000001))) h sz) (k1 : inb w (2 * Qp.1) = true → ¬ plE En w i = -1 → Post (some (.int (letR En (plE En w i) y))) h sz) : Cn l G yX5_letter cX5_letter 5 (some .int) 2 0 0 [.ref x, .int w, .int i, .int y] h sz Post := by
  refine Cn.of RX5 false (by decide) rfl (fun q => by cases q) (Nat.le_of_ble_eq_true rfl) ?_
  have hFr : Fr x 138 h h := Fr.rf
  refine V_aload_n 0 dX5_letter_0 rfl ?_
  refine V_get 1 dX5_letter_1 fdX5_19 (by first | exact hC.1 | exact hC.2.1.1 | exact hC.2.2.1.1 | exact hC.2.2.2.1.1 | exact hC.2.2.2.2.1.1 | exact hC.2.2.2.2.2.1.1 | exact hC.2.2.2.2.2.2.1.1 | exact hC.2.2.2.2.2.2.2.1) rfl ?_
  refine V_iload_n 4 dX5_letter_4 rfl ?_
  refine V_iv1 5 dX5_letter_5 kvX5_115 rfl (by first | exact hC.1 | exact hC.2.1.1 | exact hC.2.2.1.1 | exact hC.2.2.2.1.1 | exact hC.2.2.2.2.1.1 | exact hC.2.2.2.2.2.1.1 | exact hC.2.2.2.2.2.2.1.1 | exact hC.2.2.2.2.2.2.2.1) rfl rfl (c_X3_hasLink hC.2.2.1 (fun c_5 => ?_) (fun c_5 => ?_))
  · refine V_if_ne 8 14 dX5_letter_8 rfl (fun _ => ?_) (fun q => absurd q (by decide))
    refine V_aload_n 14 dX5_letter_14 rfl ?_
    refine V_get 15 dX5_letter_15 fdX5_31 (by first | exact hC.1 | exact hC.2.1.1 | exact hC.2.2.1.1 | exact hC.2.2.2.1.1 | exact hC.2.2.2.2.1.1 | exact hC.2.2.2.2.2.1.1 | exact hC.2.2.2.2.2.2.1.1 | exact hC.2.2.2.2.2.2.2.1) rfl ?_
    refine V_iload_n 18 dX5_letter_18 rfl ?_
    refine V_iload_n 19 dX5_letter_19 rfl ?_
    refine V_iv2 20 dX5_letter_20 kvX5_142 rfl (by first | exact hC.1 | exact hC.2.1.1 | exact hC.2.2.1.1 | exact hC.2.2.2.1.1 | exact hC.2.2.2.2.1.1 | exact hC.2.2.2.2.2.1.1 | exact hC.2.2.2.2.2.2.1.1 | exact hC.2.2.2.2.2.2.2.1) rfl rfl (c_X0_placeOf hC.wn ?_)
    refine V_istore 23 dX5_letter_23 rfl rfl ?_
    refine V_iload 25 dX5_letter_25 rfl ?_
    refine V_iconstv 27 (-1) dX5_letter_27 (by decide) ?_
    refine V_icmp_ne 28 34 dX5_letter_28 rfl (fun c_28 => ?_) (fun c_28 => ?_)
    · refine V_iload_n 34 dX5_letter_34 rfl ?_
      by_cases sw35_0 : y = 0
      · refine V_tableIn 35 68 (33) dX5_letter_35 (by rw [sw35_0]; decide) (by rw [sw35_0]; decide) (by rw [sw35_0]; rfl) rfl ?_
        refine V_aload_n 68 dX5_letter_68 rfl ?_
        refine V_get 69 dX5_letter_69 fdX5_31 (by first | exact hC.1 | exact hC.2.1.1 | exact hC.2.2.1.1 | exact hC.2.2.2.1.1 | exact hC.2.2.2.2.1.1 | exact hC.2.2.2.2.2.1.1 | exact hC.2.2.2.2.2.2.1.1 | exact hC.2.2.2.2.2.2.2.1) rfl ?_
        refine V_iload 72 dX5_letter_72 rfl ?_
        refine V_iconstv 74 (1) dX5_letter_74 (by decide) ?_
        refine V_iv2 75 dX5_letter_75 kvX5_145 rfl (by first | exact hC.1 | exact hC.2.1.1 | exact hC.2.2.1.1 | exact hC.2.2.2.1.1 | exact hC.2.2.2.2.1.1 | exact hC.2.2.2.2.2.1.1 | exact hC.2.2.2.2.2.2.1.1 | exact hC.2.2.2.2.2.2.2.1) rfl rfl (c_X0_letterCell hC.wn ?_)
        refine V_iret 78 dX5_letter_78 ?_
        have K := k1 c_5 c_28
        unfold letR at K
        rw [if_pos sw35_0] at K
        exact K
      by_cases sw35_1 : y = 1
      · refine V_tableIn 35 79 (44) dX5_letter_35 (by rw [sw35_1]; decide) (by rw [sw35_1]; decide) (by rw [sw35_1]; rfl) rfl ?_
        refine V_aload_n 79 dX5_letter_79 rfl ?_
        refine V_get 80 dX5_letter_80 fdX5_31 (by first | exact hC.1 | exact hC.2.1.1 | exact hC.2.2.1.1 | exact hC.2.2.2.1.1 | exact hC.2.2.2.2.1.1 | exact hC.2.2.2.2.2.1.1 | exact hC.2.2.2.2.2.2.1.1 | exact hC.2.2.2.2.2.2.2.1) rfl ?_
        refine V_iload 83 dX5_letter_83 rfl ?_
        refine V_iconstv 85 (2) dX5_letter_85 (by decide) ?_
        refine V_iv2 86 dX5_letter_86 kvX5_145 rfl (by first | exact hC.1 | exact hC.2.1.1 | exact hC.2.2.1.1 | exact hC.2.2.2.1.1 | exact hC.2.2.2.2.1.1 | exact hC.2.2.2.2.2.1.1 | exact hC.2.2.2.2.2.2.1.1 | exact hC.2.2.2.2.2.2.2.1) rfl rfl (c_X0_letterCell hC.wn ?_)
        refine V_iret 89 dX5_letter_89 ?_
        have K := k1 c_5 c_28
        unfold letR at K
        rw [if_neg sw35_0, if_pos sw35_1] at K
        exact K
      by_cases sw35_2 : y = 2
      · refine V_tableIn 35 90 (55) dX5_letter_35 (by rw [sw35_2]; decide) (by rw [sw35_2]; decide) (by rw [sw35_2]; rfl) rfl ?_
        refine V_aload_n 90 dX5_letter_90 rfl ?_
        refine V_get 91 dX5_letter_91 fdX5_31 (by first | exact hC.1 | exact hC.2.1.1 | exact hC.2.2.1.1 | exact hC.2.2.2.1.1 | exact hC.2.2.2.2.1.1 | exact hC.2.2.2.2.2.1.1 | exact hC.2.2.2.2.2.2.1.1 | exact hC.2.2.2.2.2.2.2.1) rfl ?_
        refine V_iload 94 dX5_letter_94 rfl ?_
        refine V_iconstv 96 (3) dX5_letter_96 (by decide) ?_
        refine V_iv2 97 dX5_letter_97 kvX5_145 rfl (by first | exact hC.1 | exact hC.2.1.1 | exact hC.2.2.1.1 | exact hC.2.2.2.1.1 | exact hC.2.2.2.2.1.1 | exact hC.2.2.2.2.2.1.1 | exact hC.2.2.2.2.2.2.1.1 | exact hC.2.2.2.2.2.2.2.1) rfl rfl (c_X0_letterCell hC.wn ?_)
        refine V_iret 100 dX5_letter_100 ?_
        have K := k1 c_5 c_28
        unfold letR at K
        rw [if_neg sw35_0, if_neg sw35_1, if_pos sw35_2] at K
        exact K
      by_cases sw35_3 : y = 3
      · refine V_tableIn 35 101 (66) dX5_letter_35 (by rw [sw35_3]; decide) (by rw [sw35_3]; decide) (by rw [sw35_3]; rfl) rfl ?_
        refine V_aload_n 101 dX5_letter_101 rfl ?_
        refine V_get 102 dX5_letter_102 fdX5_31 (by first | exact hC.1 | exact hC.2.1.1 | exact hC.2.2.1.1 | exact hC.2.2.2.1.1 | exact hC.2.2.2.2.1.1 | exact hC.2.2.2.2.2.1.1 | exact hC.2.2.2.2.2.2.1.1 | exact hC.2.2.2.2.2.2.2.1) rfl ?_
        refine V_iload 105 dX5_letter_105 rfl ?_
        refine V_iconstv 107 (4) dX5_letter_107 (by decide) ?_
        refine V_iv2 108 dX5_letter_108 kvX5_145 rfl (by first | exact hC.1 | exact hC.2.1.1 | exact hC.2.2.1.1 | exact hC.2.2.2.1.1 | exact hC.2.2.2.2.1.1 | exact hC.2.2.2.2.2.1.1 | exact hC.2.2.2.2.2.2.1.1 | exact hC.2.2.2.2.2.2.2.1) rfl rfl (c_X0_letterCell hC.wn ?_)
        refine V_iret 111 dX5_letter_111 ?_
        have K := k1 c_5 c_28
        unfold letR at K
        rw [if_neg sw35_0, if_neg sw35_1, if_neg sw35_2, if_pos sw35_3] at K
        exact K
      by_cases sw35_4 : y = 4
      · refine V_tableIn 35 112 (77) dX5_letter_35 (by rw [sw35_4]; decide) (by rw [sw35_4]; decide) (by rw [sw35_4]; rfl) rfl ?_
        refine V_aload_n 112 dX5_letter_112 rfl ?_
        refine V_get 113 dX5_letter_113 fdX5_31 (by first | exact hC.1 | exact hC.2.1.1 | exact hC.2.2.1.1 | exact hC.2.2.2.1.1 | exact hC.2.2.2.2.1.1 | exact hC.2.2.2.2.2.1.1 | exact hC.2.2.2.2.2.2.1.1 | exact hC.2.2.2.2.2.2.2.1) rfl ?_
        refine V_iload 116 dX5_letter_116 rfl ?_
        refine V_iconstv 118 (5) dX5_letter_118 (by decide) ?_
        refine V_iv2 119 dX5_letter_119 kvX5_145 rfl (by first | exact hC.1 | exact hC.2.1.1 | exact hC.2.2.1.1 | exact hC.2.2.2.1.1 | exact hC.2.2.2.2.1.1 | exact hC.2.2.2.2.2.1.1 | exact hC.2.2.2.2.2.2.1.1 | exact hC.2.2.2.2.2.2.2.1) rfl rfl (c_X0_letterCell hC.wn ?_)
        refine V_iret 122 dX5_letter_122 ?_
        have K := k1 c_5 c_28
        unfold letR at K
        rw [if_neg sw35_0, if_neg sw35_1, if_neg sw35_2, if_neg sw35_3, if_pos sw35_4] at K
        exact K
      have tq0 : ¬ y.toInt = 0 := fun q => sw35_0 (Int32.toInt_inj.mp q)
      have tq1 : ¬ y.toInt = 1 := fun q => sw35_1 (Int32.toInt_inj.mp q)
      have tq2 : ¬ y.toInt = 2 := fun q => sw35_2 (Int32.toInt_inj.mp q)
      have tq3 : ¬ y.toInt = 3 := fun q => sw35_3 (Int32.toInt_inj.mp q)
      have tq4 : ¬ y.toInt = 4 := fun q => sw35_4 (Int32.toInt_inj.mp q)
      refine V_tableOut 35 123 dX5_letter_35 (by omega) rfl ?_
      refine V_ldc 123 dX5_letter_123 knX5_56 ?_
      refine V_iret 125 dX5_letter_125 ?_
      have K := k1 c_5 c_28
      unfold letR at K
      rw [if_neg sw35_0, if_neg sw35_1, if_neg sw35_2, if_neg sw35_3, if_neg sw35_4] at K
      exact K
    · refine V_ldc 31 dX5_letter_31 knX5_95 ?_
      refine V_iret 33 dX5_letter_33 ?_
      exact k2 c_5 c_28
  · refine V_if_ne 8 14 dX5_letter_8 rfl (fun q => absurd q (by decide)) (fun _ => ?_)
    refine V_ldc 11 dX5_letter_11 knX5_95 ?_
    refine V_iret 13 dX5_letter_13 ?_
    exact k0 c_5
set_option maxHeartbeats 1000000 in
set_option maxRecDepth 100000 in
theorem c_X5_sent (hC : CA G h x X Qp Qd En Et nx hs K S) {w : Int32} (k0 : ¬ (0 ≤ w ∧ w ≤ 7) → Post (some (.int (-1000002))) h sz) (k1 : (0 ≤ w ∧ w ≤ 7) → Post (some (.int (snE En w))) h sz) : Cn l G yX5_sent cX5_sent 2 (some .int) 2 0 0 [.ref x, .int w] h sz Post := by
  refine Cn.of RX5 false (by decide) rfl (fun q => by cases q) (Nat.le_of_ble_eq_true rfl) ?_
  have hFr : Fr x 138 h h := Fr.rf
  refine V_iload_n 0 dX5_sent_0 rfl ?_
  refine V_iconstv 1 (0) dX5_sent_1 (by decide) ?_
  refine V_bipushv 2 (7) dX5_sent_2 (by decide) ?_
  refine V_is3 4 dX5_sent_4 ksX5_52 rfl rfl (c_X5_within (fun c_4 => ?_) (fun c_4 => ?_))
  · refine V_if_eq 7 21 dX5_sent_7 rfl (fun q => absurd q (by decide)) (fun _ => ?_)
    refine V_aload_n 10 dX5_sent_10 rfl ?_
    refine V_get 11 dX5_sent_11 fdX5_31 (by first | exact hC.1 | exact hC.2.1.1 | exact hC.2.2.1.1 | exact hC.2.2.2.1.1 | exact hC.2.2.2.2.1.1 | exact hC.2.2.2.2.2.1.1 | exact hC.2.2.2.2.2.2.1.1 | exact hC.2.2.2.2.2.2.2.1) rfl ?_
    refine V_iload_n 14 dX5_sent_14 rfl ?_
    refine V_iv1 15 dX5_sent_15 kvX5_107 rfl (by first | exact hC.1 | exact hC.2.1.1 | exact hC.2.2.1.1 | exact hC.2.2.2.1.1 | exact hC.2.2.2.2.1.1 | exact hC.2.2.2.2.2.1.1 | exact hC.2.2.2.2.2.2.1.1 | exact hC.2.2.2.2.2.2.2.1) rfl rfl (c_X0_sentOf hC.wn ?_)
    refine V_goto 18 23 dX5_sent_18 rfl ?_
    refine V_iret 23 dX5_sent_23 ?_
    first | exact k0 c_4 | exact k1 c_4
  · refine V_if_eq 7 21 dX5_sent_7 rfl (fun _ => ?_) (fun q => absurd q (by decide))
    refine V_ldc 21 dX5_sent_21 knX5_56 ?_
    refine V_iret 23 dX5_sent_23 ?_
    first | exact k0 c_4 | exact k1 c_4
set_option maxHeartbeats 1000000 in
set_option maxRecDepth 100000 in
theorem c_X5_would (hC : CA G h x X Qp Qd En Et nx hs K S) {a b y : Int32} (k0 : ¬ (okOrd a b ∧ (0 ≤ y ∧ y ≤ 4)) → Post (some (.int (-1000002))) h sz) (k2 : (okOrd a b ∧ (0 ≤ y ∧ y ≤ 4)) → eW En = 0 → Post (some (.int (-1000003))) h sz) (k1 : (okOrd a b ∧ (0 ≤ y ∧ y ≤ 4)) → ¬ eW En = 0 → ∀ h1, CA G h1 x X Qp Qd En (dmE Qp a 300 0 b (eH' En (eH Et))).2 nx hs K S → Fr x 138 h h1 → Post (some (.int (wldR Qp En (dmE Qp a 300 0 b (eH' En (eH Et))).2 (dmE Qp a 300 0 b (eH' En (eH Et))).1 y))) h1 sz) : Cn l G yX5_would cX5_would 5 (some .int) 7 0 0 [.ref x, .int a, .int b, .int y] h sz Post := by
  refine Cn.of RX5 false (by decide) rfl (fun q => by cases q) (Nat.le_of_ble_eq_true rfl) ?_
  have hFr : Fr x 138 h h := Fr.rf
  refine V_iload_n 0 dX5_would_0 rfl ?_
  refine V_iconstv 1 (0) dX5_would_1 (by decide) ?_
  refine V_iconstv 2 (3) dX5_would_2 (by decide) ?_
  refine V_is3 3 dX5_would_3 ksX5_52 rfl rfl (c_X5_within (fun c_3 => ?_) (fun c_3 => ?_))
  · refine V_if_eq 6 28 dX5_would_6 rfl (fun q => absurd q (by decide)) (fun _ => ?_)
    refine V_iload_n 9 dX5_would_9 rfl ?_
    refine V_iconstv 10 (1) dX5_would_10 (by decide) ?_
    refine V_ldc 11 dX5_would_11 knX5_86 ?_
    refine V_is3 13 dX5_would_13 ksX5_52 rfl rfl (c_X5_within (fun c_13 => ?_) (fun c_13 => ?_))
    · refine V_if_eq 16 28 dX5_would_16 rfl (fun q => absurd q (by decide)) (fun _ => ?_)
      refine V_iload_n 19 dX5_would_19 rfl ?_
      refine V_iconstv 20 (0) dX5_would_20 (by decide) ?_
      refine V_iconstv 21 (4) dX5_would_21 (by decide) ?_
      refine V_is3 22 dX5_would_22 ksX5_52 rfl rfl (c_X5_within (fun c_22 => ?_) (fun c_22 => ?_))
      · refine V_if_ne 25 31 dX5_would_25 rfl (fun _ => ?_) (fun q => absurd q (by decide))
        refine V_aload_n 31 dX5_would_31 rfl ?_
        refine V_get 32 dX5_would_32 fdX5_31 (by first | exact hC.1 | exact hC.2.1.1 | exact hC.2.2.1.1 | exact hC.2.2.2.1.1 | exact hC.2.2.2.2.1.1 | exact hC.2.2.2.2.2.1.1 | exact hC.2.2.2.2.2.2.1.1 | exact hC.2.2.2.2.2.2.2.1) rfl ?_
        refine V_iv0 35 dX5_would_35 kvX5_96 rfl (by first | exact hC.1 | exact hC.2.1.1 | exact hC.2.2.1.1 | exact hC.2.2.2.1.1 | exact hC.2.2.2.2.1.1 | exact hC.2.2.2.2.2.1.1 | exact hC.2.2.2.2.2.2.1.1 | exact hC.2.2.2.2.2.2.2.1) rfl rfl (c_X0_isBegun hC.wn (fun c_35 => ?_) (fun c_35 => ?_))
        · refine V_if_ne 38 44 dX5_would_38 rfl (fun _ => ?_) (fun q => absurd q (by decide))
          refine V_aload_n 44 dX5_would_44 rfl ?_
          refine V_get 45 dX5_would_45 fdX5_35 (by first | exact hC.1 | exact hC.2.1.1 | exact hC.2.2.1.1 | exact hC.2.2.2.1.1 | exact hC.2.2.2.2.1.1 | exact hC.2.2.2.2.2.1.1 | exact hC.2.2.2.2.2.2.1.1 | exact hC.2.2.2.2.2.2.2.1) rfl ?_
          refine V_aload_n 48 dX5_would_48 rfl ?_
          refine V_get 49 dX5_would_49 fdX5_31 (by first | exact hC.1 | exact hC.2.1.1 | exact hC.2.2.1.1 | exact hC.2.2.2.1.1 | exact hC.2.2.2.2.1.1 | exact hC.2.2.2.2.2.1.1 | exact hC.2.2.2.2.2.2.1.1 | exact hC.2.2.2.2.2.2.2.1) rfl ?_
          refine V_iv1 52 dX5_would_52 kvX5_148 rfl (by first | exact hC.1 | exact hC.2.1.1 | exact hC.2.2.1.1 | exact hC.2.2.2.1.1 | exact hC.2.2.2.2.1.1 | exact hC.2.2.2.2.2.1.1 | exact hC.2.2.2.2.2.2.1.1 | exact hC.2.2.2.2.2.2.2.1) rfl rfl (c_X0_copyFrom hC.2.2.2.2.2.1 hC.2.2.1 (Or.inl (by omega)) hC.2.2.2.2.1 (by omega) (fun h1 hW => ?_))
          have hF := hW.2.2.1
          replace hC := hC.tri hW.1 hF
          replace hFr := hFr.tr (hF.of (by omega) (by omega))
          clear hF hW
          refine V_aload_n 55 dX5_would_55 rfl ?_
          refine V_get 56 dX5_would_56 fdX5_35 (by first | exact hC.1 | exact hC.2.1.1 | exact hC.2.2.1.1 | exact hC.2.2.2.1.1 | exact hC.2.2.2.2.1.1 | exact hC.2.2.2.2.2.1.1 | exact hC.2.2.2.2.2.2.1.1 | exact hC.2.2.2.2.2.2.2.1) rfl ?_
          refine V_iload_n 59 dX5_would_59 rfl ?_
          refine V_iload_n 60 dX5_would_60 rfl ?_
          refine V_sipushv 61 (300) dX5_would_61 (by decide) ?_
          refine V_iv3 64 dX5_would_64 kvX5_127 rfl (by first | exact hC.1 | exact hC.2.1.1 | exact hC.2.2.1.1 | exact hC.2.2.2.1.1 | exact hC.2.2.2.2.1.1 | exact hC.2.2.2.2.2.1.1 | exact hC.2.2.2.2.2.2.1.1 | exact hC.2.2.2.2.2.2.2.1) rfl rfl (c_X0_deliverMany hC.wt2 300 (by decide) (fun h2 hW => ?_))
          have hF := hW.2.2.1
          replace hC := hC.tri hW.1 hF
          replace hFr := hFr.tr (hF.of (by omega) (by omega))
          clear hF hW
          have K := k1 ⟨⟨c_3, c_13⟩, c_22⟩ c_35 _ hC hFr
          unfold wldR at K
          refine V_istore 67 dX5_would_67 rfl rfl ?_
          refine V_iload_n 69 dX5_would_69 rfl ?_
          by_cases sw70_0 : y = 0
          · refine V_tableIn 70 100 (30) dX5_would_70 (by rw [sw70_0]; decide) (by rw [sw70_0]; decide) (by rw [sw70_0]; rfl) rfl ?_
            refine V_iload 100 dX5_would_100 rfl ?_
            refine V_iret 102 dX5_would_102 ?_
            rw [if_pos sw70_0] at K
            exact K
          by_cases sw70_1 : y = 1
          · refine V_tableIn 70 103 (33) dX5_would_70 (by rw [sw70_1]; decide) (by rw [sw70_1]; decide) (by rw [sw70_1]; rfl) rfl ?_
            refine V_aload_n 103 dX5_would_103 rfl ?_
            refine V_get 104 dX5_would_104 fdX5_35 (by first | exact hC.1 | exact hC.2.1.1 | exact hC.2.2.1.1 | exact hC.2.2.2.1.1 | exact hC.2.2.2.2.1.1 | exact hC.2.2.2.2.2.1.1 | exact hC.2.2.2.2.2.2.1.1 | exact hC.2.2.2.2.2.2.2.1) rfl ?_
            refine V_iconstv 107 (0) dX5_would_107 (by decide) ?_
            refine V_iv1 108 dX5_would_108 kvX5_107 rfl (by first | exact hC.1 | exact hC.2.1.1 | exact hC.2.2.1.1 | exact hC.2.2.2.1.1 | exact hC.2.2.2.2.1.1 | exact hC.2.2.2.2.2.1.1 | exact hC.2.2.2.2.2.2.1.1 | exact hC.2.2.2.2.2.2.2.1) rfl rfl (c_X0_sentOf hC.wt2 ?_)
            refine V_aload_n 111 dX5_would_111 rfl ?_
            refine V_get 112 dX5_would_112 fdX5_31 (by first | exact hC.1 | exact hC.2.1.1 | exact hC.2.2.1.1 | exact hC.2.2.2.1.1 | exact hC.2.2.2.2.1.1 | exact hC.2.2.2.2.2.1.1 | exact hC.2.2.2.2.2.2.1.1 | exact hC.2.2.2.2.2.2.2.1) rfl ?_
            refine V_iconstv 115 (0) dX5_would_115 (by decide) ?_
            refine V_iv1 116 dX5_would_116 kvX5_107 rfl (by first | exact hC.1 | exact hC.2.1.1 | exact hC.2.2.1.1 | exact hC.2.2.2.1.1 | exact hC.2.2.2.2.1.1 | exact hC.2.2.2.2.2.1.1 | exact hC.2.2.2.2.2.2.1.1 | exact hC.2.2.2.2.2.2.2.1) rfl rfl (c_X0_sentOf hC.wn ?_)
            refine V_isub 119 dX5_would_119 ?_
            refine V_iret 120 dX5_would_120 ?_
            rw [if_neg sw70_0, if_pos sw70_1] at K
            exact K
          by_cases sw70_2 : y = 2
          · refine V_tableIn 70 121 (51) dX5_would_70 (by rw [sw70_2]; decide) (by rw [sw70_2]; decide) (by rw [sw70_2]; rfl) rfl ?_
            refine V_aload_n 121 dX5_would_121 rfl ?_
            refine V_get 122 dX5_would_122 fdX5_35 (by first | exact hC.1 | exact hC.2.1.1 | exact hC.2.2.1.1 | exact hC.2.2.2.1.1 | exact hC.2.2.2.2.1.1 | exact hC.2.2.2.2.2.1.1 | exact hC.2.2.2.2.2.2.1.1 | exact hC.2.2.2.2.2.2.2.1) rfl ?_
            refine V_iv0 125 dX5_would_125 kvX5_150 rfl (by first | exact hC.1 | exact hC.2.1.1 | exact hC.2.2.1.1 | exact hC.2.2.2.1.1 | exact hC.2.2.2.2.1.1 | exact hC.2.2.2.2.2.1.1 | exact hC.2.2.2.2.2.2.1.1 | exact hC.2.2.2.2.2.2.2.1) rfl rfl (c_X0_head hC.wt2 ?_)
            refine V_iret 128 dX5_would_128 ?_
            rw [if_neg sw70_0, if_neg sw70_1, if_pos sw70_2] at K
            exact K
          by_cases sw70_3 : y = 3
          · refine V_tableIn 70 129 (59) dX5_would_70 (by rw [sw70_3]; decide) (by rw [sw70_3]; decide) (by rw [sw70_3]; rfl) rfl ?_
            refine V_aload_n 129 dX5_would_129 rfl ?_
            refine V_get 130 dX5_would_130 fdX5_35 (by first | exact hC.1 | exact hC.2.1.1 | exact hC.2.2.1.1 | exact hC.2.2.2.1.1 | exact hC.2.2.2.2.1.1 | exact hC.2.2.2.2.2.1.1 | exact hC.2.2.2.2.2.2.1.1 | exact hC.2.2.2.2.2.2.2.1) rfl ?_
            refine V_iconstv 133 (3) dX5_would_133 (by decide) ?_
            refine V_iv1 134 dX5_would_134 kvX5_154 rfl (by first | exact hC.1 | exact hC.2.1.1 | exact hC.2.2.1.1 | exact hC.2.2.2.1.1 | exact hC.2.2.2.2.1.1 | exact hC.2.2.2.2.2.1.1 | exact hC.2.2.2.2.2.2.1.1 | exact hC.2.2.2.2.2.2.2.1) rfl rfl (c_X0_inState hC.wt2 ?_)
            refine V_aload_n 137 dX5_would_137 rfl ?_
            refine V_get 138 dX5_would_138 fdX5_35 (by first | exact hC.1 | exact hC.2.1.1 | exact hC.2.2.1.1 | exact hC.2.2.2.1.1 | exact hC.2.2.2.2.1.1 | exact hC.2.2.2.2.2.1.1 | exact hC.2.2.2.2.2.2.1.1 | exact hC.2.2.2.2.2.2.2.1) rfl ?_
            refine V_iconstv 141 (4) dX5_would_141 (by decide) ?_
            refine V_iv1 142 dX5_would_142 kvX5_154 rfl (by first | exact hC.1 | exact hC.2.1.1 | exact hC.2.2.1.1 | exact hC.2.2.2.1.1 | exact hC.2.2.2.2.1.1 | exact hC.2.2.2.2.2.1.1 | exact hC.2.2.2.2.2.2.1.1 | exact hC.2.2.2.2.2.2.2.1) rfl rfl (c_X0_inState hC.wt2 ?_)
            refine V_iadd 145 dX5_would_145 ?_
            refine V_iret 146 dX5_would_146 ?_
            rw [if_neg sw70_0, if_neg sw70_1, if_neg sw70_2, if_pos sw70_3] at K
            exact K
          have tq0 : ¬ y.toInt = 0 := fun q => sw70_0 (Int32.toInt_inj.mp q)
          have tq1 : ¬ y.toInt = 1 := fun q => sw70_1 (Int32.toInt_inj.mp q)
          have tq2 : ¬ y.toInt = 2 := fun q => sw70_2 (Int32.toInt_inj.mp q)
          have tq3 : ¬ y.toInt = 3 := fun q => sw70_3 (Int32.toInt_inj.mp q)
          refine V_tableOut 70 147 dX5_would_70 (by omega) rfl ?_
          refine V_aload_n 147 dX5_would_147 rfl ?_
          refine V_get 148 dX5_would_148 fdX5_35 (by first | exact hC.1 | exact hC.2.1.1 | exact hC.2.2.1.1 | exact hC.2.2.2.1.1 | exact hC.2.2.2.2.1.1 | exact hC.2.2.2.2.2.1.1 | exact hC.2.2.2.2.2.2.1.1 | exact hC.2.2.2.2.2.2.2.1) rfl ?_
          refine V_get 151 dX5_would_151 fdX5_124 (by first | exact hC.1 | exact hC.2.1.1 | exact hC.2.2.1.1 | exact hC.2.2.2.1.1 | exact hC.2.2.2.2.1.1 | exact hC.2.2.2.2.2.1.1 | exact hC.2.2.2.2.2.2.1.1 | exact hC.2.2.2.2.2.2.2.1) rfl ?_
          refine V_if_ne 154 161 dX5_would_154 rfl (fun c_154 => ?_) (fun c_154 => ?_)
          · refine V_iconstv 161 (0) dX5_would_161 (by decide) ?_
            refine V_iret 162 dX5_would_162 ?_
            rw [if_neg sw70_0, if_neg sw70_1, if_neg sw70_2, if_neg sw70_3] at K
            first | (rw [if_pos c_154] at K; exact K) | (rw [if_neg c_154] at K; exact K)
          · refine V_iconstv 157 (1) dX5_would_157 (by decide) ?_
            refine V_goto 158 162 dX5_would_158 rfl ?_
            refine V_iret 162 dX5_would_162 ?_
            rw [if_neg sw70_0, if_neg sw70_1, if_neg sw70_2, if_neg sw70_3] at K
            first | (rw [if_pos c_154] at K; exact K) | (rw [if_neg c_154] at K; exact K)
        · refine V_if_ne 38 44 dX5_would_38 rfl (fun q => absurd q (by decide)) (fun _ => ?_)
          refine V_ldc 41 dX5_would_41 knX5_91 ?_
          refine V_iret 43 dX5_would_43 ?_
          exact k2 ⟨⟨c_3, c_13⟩, c_22⟩ c_35
      · refine V_if_ne 25 31 dX5_would_25 rfl (fun q => absurd q (by decide)) (fun _ => ?_)
        refine V_ldc 28 dX5_would_28 knX5_56 ?_
        refine V_iret 30 dX5_would_30 ?_
        first | exact k0 (fun q => c_3 q.1.1) | exact k0 (fun q => c_13 q.1.2) | exact k0 (fun q => c_22 q.2)
    · refine V_if_eq 16 28 dX5_would_16 rfl (fun _ => ?_) (fun q => absurd q (by decide))
      refine V_ldc 28 dX5_would_28 knX5_56 ?_
      refine V_iret 30 dX5_would_30 ?_
      first | exact k0 (fun q => c_3 q.1.1) | exact k0 (fun q => c_13 q.1.2) | exact k0 (fun q => c_22 q.2)
  · refine V_if_eq 6 28 dX5_would_6 rfl (fun _ => ?_) (fun q => absurd q (by decide))
    refine V_ldc 28 dX5_would_28 knX5_56 ?_
    refine V_iret 30 dX5_would_30 ?_
    first | exact k0 (fun q => c_3 q.1.1) | exact k0 (fun q => c_13 q.1.2) | exact k0 (fun q => c_22 q.2)
set_option maxHeartbeats 1000000 in
set_option maxRecDepth 100000 in
theorem c_X5_foresee (hC : CA G h x X Qp Qd En Et nx hs K S) {a y : Int32} (k0 : ¬ ((1 ≤ a ∧ a ≤ 3) ∧ (0 ≤ y ∧ y ≤ 3)) → Post (some (.int (-1000002))) h sz) (k2 : ((1 ≤ a ∧ a ≤ 3) ∧ (0 ≤ y ∧ y ≤ 3)) → eW En = 0 → Post (some (.int (-1000003))) h sz) (k3 : ((1 ≤ a ∧ a ≤ 3) ∧ (0 ≤ y ∧ y ≤ 3)) → ¬ eW En = 0 → ¬ blE En Qp.1 ≤ 6 → Post (some (.int (-1000004))) h sz) (k1 : ((1 ≤ a ∧ a ≤ 3) ∧ (0 ≤ y ∧ y ≤ 3)) → ¬ eW En = 0 → blE En Qp.1 ≤ 6 → ∀ M, a = nI M → 1 ≤ M → M ≤ 3 → ∀ h1, CA G h1 x X Qp Qd En Et nx hs K (exE Qp M En ((snE En 0, 0, 0, 0, 0), S.2)) → Fr x 138 h h1 → Post (some (.int (forR (exE Qp M En ((snE En 0, 0, 0, 0, 0), S.2)).1 y))) h1 sz) : Cn l G yX5_foresee cX5_foresee 3 (some .int) 10 0 0 [.ref x, .int a, .int y] h sz Post := by
  refine Cn.of RX5 false (by decide) rfl (fun q => by cases q) (Nat.le_of_ble_eq_true rfl) ?_
  have hFr : Fr x 138 h h := Fr.rf
  have hn := hC.2.2.1.2.2.2.1
  refine V_iload_n 0 dX5_foresee_0 rfl ?_
  refine V_iconstv 1 (1) dX5_foresee_1 (by decide) ?_
  refine V_iconstv 2 (3) dX5_foresee_2 (by decide) ?_
  refine V_is3 3 dX5_foresee_3 ksX5_52 rfl rfl (c_X5_within (fun c_3 => ?_) (fun c_3 => ?_))
  · refine V_if_eq 6 18 dX5_foresee_6 rfl (fun q => absurd q (by decide)) (fun _ => ?_)
    refine V_iload_n 9 dX5_foresee_9 rfl ?_
    refine V_iconstv 10 (0) dX5_foresee_10 (by decide) ?_
    refine V_iconstv 11 (3) dX5_foresee_11 (by decide) ?_
    refine V_is3 12 dX5_foresee_12 ksX5_52 rfl rfl (c_X5_within (fun c_12 => ?_) (fun c_12 => ?_))
    · refine V_if_ne 15 21 dX5_foresee_15 rfl (fun _ => ?_) (fun q => absurd q (by decide))
      refine V_aload_n 21 dX5_foresee_21 rfl ?_
      refine V_get 22 dX5_foresee_22 fdX5_31 (by first | exact hC.1 | exact hC.2.1.1 | exact hC.2.2.1.1 | exact hC.2.2.2.1.1 | exact hC.2.2.2.2.1.1 | exact hC.2.2.2.2.2.1.1 | exact hC.2.2.2.2.2.2.1.1 | exact hC.2.2.2.2.2.2.2.1) rfl ?_
      refine V_iv0 25 dX5_foresee_25 kvX5_96 rfl (by first | exact hC.1 | exact hC.2.1.1 | exact hC.2.2.1.1 | exact hC.2.2.2.1.1 | exact hC.2.2.2.2.1.1 | exact hC.2.2.2.2.2.1.1 | exact hC.2.2.2.2.2.2.1.1 | exact hC.2.2.2.2.2.2.2.1) rfl rfl (c_X0_isBegun hC.wn (fun c_25 => ?_) (fun c_25 => ?_))
      · refine V_if_ne 28 34 dX5_foresee_28 rfl (fun _ => ?_) (fun q => absurd q (by decide))
        refine V_aload_n 34 dX5_foresee_34 rfl ?_
        refine V_get 35 dX5_foresee_35 fdX5_31 (by first | exact hC.1 | exact hC.2.1.1 | exact hC.2.2.1.1 | exact hC.2.2.2.1.1 | exact hC.2.2.2.2.1.1 | exact hC.2.2.2.2.2.1.1 | exact hC.2.2.2.2.2.2.1.1 | exact hC.2.2.2.2.2.2.2.1) rfl ?_
        refine V_iv0 38 dX5_foresee_38 kvX5_157 rfl (by first | exact hC.1 | exact hC.2.1.1 | exact hC.2.2.1.1 | exact hC.2.2.2.1.1 | exact hC.2.2.2.2.1.1 | exact hC.2.2.2.2.2.1.1 | exact hC.2.2.2.2.2.2.1.1 | exact hC.2.2.2.2.2.2.2.1) rfl rfl (c_X0_busyLinks hC.wn ?_)
        refine V_bipushv 41 (6) dX5_foresee_41 (by decide) ?_
        refine V_icmp_le 43 49 dX5_foresee_43 rfl (fun c_43 => ?_) (fun c_43 => ?_)
        · have e_43 : blE En Qp.1 ≤ 6 := (nI_leI (b := 6) (by have := ctN_le (fun j => bsy En (nI j)) (2 * Qp.1); unfold blE; omega) (by decide)).mp c_43
          refine V_aload_n 49 dX5_foresee_49 rfl ?_
          refine V_get 50 dX5_foresee_50 fdX5_48 (by first | exact hC.1 | exact hC.2.1.1 | exact hC.2.2.1.1 | exact hC.2.2.2.1.1 | exact hC.2.2.2.2.1.1 | exact hC.2.2.2.2.2.1.1 | exact hC.2.2.2.2.2.2.1.1 | exact hC.2.2.2.2.2.2.2.1) rfl ?_
          refine V_aload_n 53 dX5_foresee_53 rfl ?_
          refine V_get 54 dX5_foresee_54 fdX5_31 (by first | exact hC.1 | exact hC.2.1.1 | exact hC.2.2.1.1 | exact hC.2.2.2.1.1 | exact hC.2.2.2.2.1.1 | exact hC.2.2.2.2.2.1.1 | exact hC.2.2.2.2.2.2.1.1 | exact hC.2.2.2.2.2.2.2.1) rfl ?_
          refine V_iv1 57 dX5_foresee_57 kvX5_160 rfl (by first | exact hC.1 | exact hC.2.1.1 | exact hC.2.2.1.1 | exact hC.2.2.2.1.1 | exact hC.2.2.2.2.1.1 | exact hC.2.2.2.2.2.1.1 | exact hC.2.2.2.2.2.2.1.1 | exact hC.2.2.2.2.2.2.2.1) rfl rfl (c_X1_reset hC.2.2.2.2.2.2.2 hC.wn (fun h1 hH hP => ?_))
          have hF : Fr (x + 121) 17 h h1 := hP.fr (fun a q => by omega)
          replace hC := hC.for hH hF
          replace hFr := hFr.tr (hF.of (by omega) (by omega))
          clear hF hP hH
          obtain ⟨M, hM, rfl⟩ := nI_of2 (M := 3) (n := 3) rfl (fun q => absurd c_3.1 (Int32.not_le.mpr (Int32.lt_trans q (by decide)))) c_3.2
          have hM1 : 1 ≤ M := (nI_leI (a := 1) (by decide) (by omega)).mp c_3.1
          refine V_aload_n 60 dX5_foresee_60 rfl ?_
          refine V_get 61 dX5_foresee_61 fdX5_48 (by first | exact hC.1 | exact hC.2.1.1 | exact hC.2.2.1.1 | exact hC.2.2.2.1.1 | exact hC.2.2.2.2.1.1 | exact hC.2.2.2.2.2.1.1 | exact hC.2.2.2.2.2.2.1.1 | exact hC.2.2.2.2.2.2.2.1) rfl ?_
          refine V_aload_n 64 dX5_foresee_64 rfl ?_
          refine V_get 65 dX5_foresee_65 fdX5_31 (by first | exact hC.1 | exact hC.2.1.1 | exact hC.2.2.1.1 | exact hC.2.2.2.1.1 | exact hC.2.2.2.2.1.1 | exact hC.2.2.2.2.2.1.1 | exact hC.2.2.2.2.2.2.1.1 | exact hC.2.2.2.2.2.2.2.1) rfl ?_
          refine V_iload_n 68 dX5_foresee_68 rfl ?_
          refine V_is3 69 dX5_foresee_69 ksX5_163 rfl (Nat.ble_eq_true_of_le (by omega)) (c_X1_explore M hM (x + 9) En _ h1 _ hC.2.2.2.2.2.2.2 hC.2.2.2.2.1 hC.2.2.1 (by omega) (by omega) (Or.inl (by omega)) (fun h2 hH hP => ?_))
          have hF : Fr (x + 121) 17 h1 h2 := hP.fr (fun a q => by unfold exR at q; omega)
          replace hC := hC.for hH hF
          replace hFr := hFr.tr (hF.of (by omega) (by omega))
          clear hF hP hH
          have K := k1 ⟨c_3, c_12⟩ c_25 e_43 M rfl hM1 hM _ hC hFr
          unfold forR at K
          refine V_iload_n 72 dX5_foresee_72 rfl ?_
          by_cases sw73_0 : y = 0
          · refine V_tableIn 73 100 (27) dX5_foresee_73 (by rw [sw73_0]; decide) (by rw [sw73_0]; decide) (by rw [sw73_0]; rfl) rfl ?_
            refine V_aload_n 100 dX5_foresee_100 rfl ?_
            refine V_get 101 dX5_foresee_101 fdX5_48 (by first | exact hC.1 | exact hC.2.1.1 | exact hC.2.2.1.1 | exact hC.2.2.2.1.1 | exact hC.2.2.2.2.1.1 | exact hC.2.2.2.2.2.1.1 | exact hC.2.2.2.2.2.2.1.1 | exact hC.2.2.2.2.2.2.2.1) rfl ?_
            refine V_get 104 dX5_foresee_104 fdX5_167 (by first | exact hC.1 | exact hC.2.1.1 | exact hC.2.2.1.1 | exact hC.2.2.2.1.1 | exact hC.2.2.2.2.1.1 | exact hC.2.2.2.2.2.1.1 | exact hC.2.2.2.2.2.2.1.1 | exact hC.2.2.2.2.2.2.2.1) rfl ?_
            refine V_iret 107 dX5_foresee_107 ?_
            rw [if_pos sw73_0] at K
            exact K
          by_cases sw73_1 : y = 1
          · refine V_tableIn 73 108 (35) dX5_foresee_73 (by rw [sw73_1]; decide) (by rw [sw73_1]; decide) (by rw [sw73_1]; rfl) rfl ?_
            refine V_aload_n 108 dX5_foresee_108 rfl ?_
            refine V_get 109 dX5_foresee_109 fdX5_48 (by first | exact hC.1 | exact hC.2.1.1 | exact hC.2.2.1.1 | exact hC.2.2.2.1.1 | exact hC.2.2.2.2.1.1 | exact hC.2.2.2.2.2.1.1 | exact hC.2.2.2.2.2.2.1.1 | exact hC.2.2.2.2.2.2.2.1) rfl ?_
            refine V_get 112 dX5_foresee_112 fdX5_170 (by first | exact hC.1 | exact hC.2.1.1 | exact hC.2.2.1.1 | exact hC.2.2.2.1.1 | exact hC.2.2.2.2.1.1 | exact hC.2.2.2.2.2.1.1 | exact hC.2.2.2.2.2.2.1.1 | exact hC.2.2.2.2.2.2.2.1) rfl ?_
            refine V_iret 115 dX5_foresee_115 ?_
            rw [if_neg sw73_0, if_pos sw73_1] at K
            exact K
          by_cases sw73_2 : y = 2
          · refine V_tableIn 73 116 (43) dX5_foresee_73 (by rw [sw73_2]; decide) (by rw [sw73_2]; decide) (by rw [sw73_2]; rfl) rfl ?_
            refine V_aload_n 116 dX5_foresee_116 rfl ?_
            refine V_get 117 dX5_foresee_117 fdX5_48 (by first | exact hC.1 | exact hC.2.1.1 | exact hC.2.2.1.1 | exact hC.2.2.2.1.1 | exact hC.2.2.2.2.1.1 | exact hC.2.2.2.2.2.1.1 | exact hC.2.2.2.2.2.2.1.1 | exact hC.2.2.2.2.2.2.2.1) rfl ?_
            refine V_get 120 dX5_foresee_120 fdX5_173 (by first | exact hC.1 | exact hC.2.1.1 | exact hC.2.2.1.1 | exact hC.2.2.2.1.1 | exact hC.2.2.2.2.1.1 | exact hC.2.2.2.2.2.1.1 | exact hC.2.2.2.2.2.2.1.1 | exact hC.2.2.2.2.2.2.2.1) rfl ?_
            refine V_iret 123 dX5_foresee_123 ?_
            rw [if_neg sw73_0, if_neg sw73_1, if_pos sw73_2] at K
            exact K
          have tq0 : ¬ y.toInt = 0 := fun q => sw73_0 (Int32.toInt_inj.mp q)
          have tq1 : ¬ y.toInt = 1 := fun q => sw73_1 (Int32.toInt_inj.mp q)
          have tq2 : ¬ y.toInt = 2 := fun q => sw73_2 (Int32.toInt_inj.mp q)
          refine V_tableOut 73 124 dX5_foresee_73 (by omega) rfl ?_
          refine V_aload_n 124 dX5_foresee_124 rfl ?_
          refine V_get 125 dX5_foresee_125 fdX5_48 (by first | exact hC.1 | exact hC.2.1.1 | exact hC.2.2.1.1 | exact hC.2.2.2.1.1 | exact hC.2.2.2.2.1.1 | exact hC.2.2.2.2.2.1.1 | exact hC.2.2.2.2.2.2.1.1 | exact hC.2.2.2.2.2.2.2.1) rfl ?_
          refine V_get 128 dX5_foresee_128 fdX5_176 (by first | exact hC.1 | exact hC.2.1.1 | exact hC.2.2.1.1 | exact hC.2.2.2.1.1 | exact hC.2.2.2.2.1.1 | exact hC.2.2.2.2.2.1.1 | exact hC.2.2.2.2.2.2.1.1 | exact hC.2.2.2.2.2.2.2.1) rfl ?_
          refine V_iret 131 dX5_foresee_131 ?_
          rw [if_neg sw73_0, if_neg sw73_1, if_neg sw73_2] at K
          exact K
        · have e_43 : ¬ blE En Qp.1 ≤ 6 := fun q => c_43 (nI_le (b := 6) q (by decide))
          refine V_ldc 46 dX5_foresee_46 knX5_65 ?_
          refine V_iret 48 dX5_foresee_48 ?_
          exact k3 ⟨c_3, c_12⟩ c_25 e_43
      · refine V_if_ne 28 34 dX5_foresee_28 rfl (fun q => absurd q (by decide)) (fun _ => ?_)
        refine V_ldc 31 dX5_foresee_31 knX5_91 ?_
        refine V_iret 33 dX5_foresee_33 ?_
        exact k2 ⟨c_3, c_12⟩ c_25
    · refine V_if_ne 15 21 dX5_foresee_15 rfl (fun q => absurd q (by decide)) (fun _ => ?_)
      refine V_ldc 18 dX5_foresee_18 knX5_56 ?_
      refine V_iret 20 dX5_foresee_20 ?_
      first | exact k0 (fun q => c_3 q.1) | exact k0 (fun q => c_12 q.2)
  · refine V_if_eq 6 18 dX5_foresee_6 rfl (fun _ => ?_) (fun q => absurd q (by decide))
    refine V_ldc 18 dX5_foresee_18 knX5_56 ?_
    refine V_iret 20 dX5_foresee_20 ?_
    first | exact k0 (fun q => c_3 q.1) | exact k0 (fun q => c_12 q.2)
set_option maxHeartbeats 1000000 in
set_option maxRecDepth 100000 in
theorem c_X5_sit (hC : CA G h x X Qp Qd En Et nx hs K S) {y : Int32} (k0 : ¬ (0 ≤ y ∧ y ≤ 3) → Post (some (.int (-1000002))) h sz) (k2 : (0 ≤ y ∧ y ≤ 3) → Qp.1 = 0 → Post (some (.int (-1000003))) h sz) (k1 : (0 ≤ y ∧ y ≤ 3) → ¬ Qp.1 = 0 → Post (some (.int (sitR Qp.1 y))) h sz) : Cn l G yX5_sit cX5_sit 3 (some .int) 2 0 0 [.ref x, .int y] h sz Post := by
  refine Cn.of RX5 false (by decide) rfl (fun q => by cases q) (Nat.le_of_ble_eq_true rfl) ?_
  have hFr : Fr x 138 h h := Fr.rf
  have hn := hC.2.2.1.2.2.2.1
  refine V_iload_n 0 dX5_sit_0 rfl ?_
  refine V_iconstv 1 (0) dX5_sit_1 (by decide) ?_
  refine V_iconstv 2 (3) dX5_sit_2 (by decide) ?_
  refine V_is3 3 dX5_sit_3 ksX5_52 rfl rfl (c_X5_within (fun c_3 => ?_) (fun c_3 => ?_))
  · refine V_if_ne 6 12 dX5_sit_6 rfl (fun _ => ?_) (fun q => absurd q (by decide))
    refine V_aload_n 12 dX5_sit_12 rfl ?_
    refine V_get 13 dX5_sit_13 fdX5_19 (by first | exact hC.1 | exact hC.2.1.1 | exact hC.2.2.1.1 | exact hC.2.2.2.1.1 | exact hC.2.2.2.2.1.1 | exact hC.2.2.2.2.2.1.1 | exact hC.2.2.2.2.2.2.1.1 | exact hC.2.2.2.2.2.2.2.1) rfl ?_
    refine V_get 16 dX5_sit_16 fdX5_80 (by first | exact hC.1 | exact hC.2.1.1 | exact hC.2.2.1.1 | exact hC.2.2.2.1.1 | exact hC.2.2.2.2.1.1 | exact hC.2.2.2.2.2.1.1 | exact hC.2.2.2.2.2.2.1.1 | exact hC.2.2.2.2.2.2.2.1) rfl ?_
    refine V_istore_n 19 dX5_sit_19 rfl rfl ?_
    refine V_iload_n 20 dX5_sit_20 rfl ?_
    refine V_if_ne 21 27 dX5_sit_21 rfl (fun c_21 => ?_) (fun c_21 => ?_)
    · have e_21 : ¬ Qp.1 = 0 := fun q => c_21 (by show nI Qp.1 = 0; rw [q]; rfl)
      have K := k1 c_3 e_21
      unfold sitR at K
      refine V_iload_n 27 dX5_sit_27 rfl ?_
      by_cases sw28_0 : y = 0
      · refine V_tableIn 28 56 (28) dX5_sit_28 (by rw [sw28_0]; decide) (by rw [sw28_0]; decide) (by rw [sw28_0]; rfl) rfl ?_
        refine V_iconstv 56 (2) dX5_sit_56 (by decide) ?_
        refine V_iload_n 57 dX5_sit_57 rfl ?_
        refine V_imul 58 dX5_sit_58 ?_
        refine V_iconstv 59 (1) dX5_sit_59 (by decide) ?_
        refine V_isub 60 dX5_sit_60 ?_
        refine V_iret 61 dX5_sit_61 ?_
        rw [if_pos sw28_0] at K
        exact K
      by_cases sw28_1 : y = 1
      · refine V_tableIn 28 62 (34) dX5_sit_28 (by rw [sw28_1]; decide) (by rw [sw28_1]; decide) (by rw [sw28_1]; rfl) rfl ?_
        refine V_iload_n 62 dX5_sit_62 rfl ?_
        refine V_iload_n 63 dX5_sit_63 rfl ?_
        refine V_iconstv 64 (1) dX5_sit_64 (by decide) ?_
        refine V_iadd 65 dX5_sit_65 ?_
        refine V_imul 66 dX5_sit_66 ?_
        refine V_iconstv 67 (2) dX5_sit_67 (by decide) ?_
        refine V_idiv 68 dX5_sit_68 (by decide) ?_
        refine V_iret 69 dX5_sit_69 ?_
        rw [if_neg sw28_0, if_pos sw28_1] at K
        exact K
      by_cases sw28_2 : y = 2
      · refine V_tableIn 28 70 (42) dX5_sit_28 (by rw [sw28_2]; decide) (by rw [sw28_2]; decide) (by rw [sw28_2]; rfl) rfl ?_
        refine V_iload_n 70 dX5_sit_70 rfl ?_
        refine V_is1 71 dX5_sit_71 ksX5_179 rfl rfl (c_X5_sixtiethsOfMean Qp.1 ?_)
        refine V_ldc2 74 dX5_sit_74 knX5_183 ?_
        refine V_iconstv 77 (1) dX5_sit_77 (by decide) ?_
        refine V_is3 78 dX5_sit_78 ksX5_185 rfl rfl (c_X5_lowest ?_)
        refine V_l2i 81 dX5_sit_81 ?_
        refine V_iret 82 dX5_sit_82 ?_
        rw [if_neg sw28_0, if_neg sw28_1, if_pos sw28_2] at K
        exact K
      have tq0 : ¬ y.toInt = 0 := fun q => sw28_0 (Int32.toInt_inj.mp q)
      have tq1 : ¬ y.toInt = 1 := fun q => sw28_1 (Int32.toInt_inj.mp q)
      have tq2 : ¬ y.toInt = 2 := fun q => sw28_2 (Int32.toInt_inj.mp q)
      refine V_tableOut 28 83 dX5_sit_28 (by omega) rfl ?_
      refine V_iload_n 83 dX5_sit_83 rfl ?_
      refine V_is1 84 dX5_sit_84 ksX5_179 rfl rfl (c_X5_sixtiethsOfMean Qp.1 ?_)
      refine V_ldc2 87 dX5_sit_87 knX5_183 ?_
      refine V_iconstv 90 (0) dX5_sit_90 (by decide) ?_
      refine V_is3 91 dX5_sit_91 ksX5_185 rfl rfl (c_X5_lowest ?_)
      refine V_l2i 94 dX5_sit_94 ?_
      refine V_iret 95 dX5_sit_95 ?_
      rw [if_neg sw28_0, if_neg sw28_1, if_neg sw28_2] at K
      exact K
    · have e_21 : Qp.1 = 0 := (nI_eq (b := 0) (by omega) (by decide)).mp c_21
      refine V_ldc 24 dX5_sit_24 knX5_91 ?_
      refine V_iret 26 dX5_sit_26 ?_
      exact k2 c_3 e_21
  · refine V_if_ne 6 12 dX5_sit_6 rfl (fun q => absurd q (by decide)) (fun _ => ?_)
    refine V_ldc 9 dX5_sit_9 knX5_56 ?_
    refine V_iret 11 dX5_sit_11 ?_
    exact k0 c_3
set_option maxHeartbeats 1000000 in
set_option maxRecDepth 100000 in
theorem c_X5_count (hC : CA G h x X Qp Qd En Et nx hs K S) {y : Int32} (k : Post (some (.int (cntR X Qp En hs y))) h sz) : Cn l G yX5_count cX5_count 2 (some .int) 2 0 0 [.ref x, .int y] h sz Post := by
  refine Cn.of RX5 false (by decide) rfl (fun q => by cases q) (Nat.le_of_ble_eq_true rfl) ?_
  have hFr : Fr x 138 h h := Fr.rf
  refine V_iload_n 0 dX5_count_0 rfl ?_
  by_cases sw1_0 : y = 0
  · refine V_tableIn 1 60 (59) dX5_count_1 (by rw [sw1_0]; decide) (by rw [sw1_0]; decide) (by rw [sw1_0]; rfl) rfl ?_
    refine V_aload_n 60 dX5_count_60 rfl ?_
    refine V_get 61 dX5_count_61 fdX5_19 (by first | exact hC.1 | exact hC.2.1.1 | exact hC.2.2.1.1 | exact hC.2.2.2.1.1 | exact hC.2.2.2.2.1.1 | exact hC.2.2.2.2.2.1.1 | exact hC.2.2.2.2.2.2.1.1 | exact hC.2.2.2.2.2.2.2.1) rfl ?_
    refine V_get 64 dX5_count_64 fdX5_80 (by first | exact hC.1 | exact hC.2.1.1 | exact hC.2.2.1.1 | exact hC.2.2.2.1.1 | exact hC.2.2.2.2.1.1 | exact hC.2.2.2.2.2.1.1 | exact hC.2.2.2.2.2.2.1.1 | exact hC.2.2.2.2.2.2.2.1) rfl ?_
    refine V_iret 67 dX5_count_67 ?_
    unfold cntR at k
    rw [if_pos sw1_0] at k
    exact k
  by_cases sw1_1 : y = 1
  · refine V_tableIn 1 68 (67) dX5_count_1 (by rw [sw1_1]; decide) (by rw [sw1_1]; decide) (by rw [sw1_1]; rfl) rfl ?_
    refine V_aload_n 68 dX5_count_68 rfl ?_
    refine V_get 69 dX5_count_69 fdX5_31 (by first | exact hC.1 | exact hC.2.1.1 | exact hC.2.2.1.1 | exact hC.2.2.2.1.1 | exact hC.2.2.2.2.1.1 | exact hC.2.2.2.2.2.1.1 | exact hC.2.2.2.2.2.2.1.1 | exact hC.2.2.2.2.2.2.2.1) rfl ?_
    refine V_get 72 dX5_count_72 fdX5_199 (by first | exact hC.1 | exact hC.2.1.1 | exact hC.2.2.1.1 | exact hC.2.2.2.1.1 | exact hC.2.2.2.2.1.1 | exact hC.2.2.2.2.2.1.1 | exact hC.2.2.2.2.2.2.1.1 | exact hC.2.2.2.2.2.2.2.1) rfl ?_
    refine V_iret 75 dX5_count_75 ?_
    unfold cntR at k
    rw [if_neg sw1_0, if_pos sw1_1] at k
    exact k
  by_cases sw1_2 : y = 2
  · refine V_tableIn 1 76 (75) dX5_count_1 (by rw [sw1_2]; decide) (by rw [sw1_2]; decide) (by rw [sw1_2]; rfl) rfl ?_
    refine V_aload_n 76 dX5_count_76 rfl ?_
    refine V_get 77 dX5_count_77 fdX5_31 (by first | exact hC.1 | exact hC.2.1.1 | exact hC.2.2.1.1 | exact hC.2.2.2.1.1 | exact hC.2.2.2.2.1.1 | exact hC.2.2.2.2.2.1.1 | exact hC.2.2.2.2.2.2.1.1 | exact hC.2.2.2.2.2.2.2.1) rfl ?_
    refine V_get 80 dX5_count_80 fdX5_124 (by first | exact hC.1 | exact hC.2.1.1 | exact hC.2.2.1.1 | exact hC.2.2.2.1.1 | exact hC.2.2.2.2.1.1 | exact hC.2.2.2.2.2.1.1 | exact hC.2.2.2.2.2.2.1.1 | exact hC.2.2.2.2.2.2.2.1) rfl ?_
    refine V_iret 83 dX5_count_83 ?_
    unfold cntR at k
    rw [if_neg sw1_0, if_neg sw1_1, if_pos sw1_2] at k
    exact k
  by_cases sw1_3 : y = 3
  · refine V_tableIn 1 84 (83) dX5_count_1 (by rw [sw1_3]; decide) (by rw [sw1_3]; decide) (by rw [sw1_3]; rfl) rfl ?_
    refine V_aload_n 84 dX5_count_84 rfl ?_
    refine V_get 85 dX5_count_85 fdX5_31 (by first | exact hC.1 | exact hC.2.1.1 | exact hC.2.2.1.1 | exact hC.2.2.2.1.1 | exact hC.2.2.2.2.1.1 | exact hC.2.2.2.2.2.1.1 | exact hC.2.2.2.2.2.2.1.1 | exact hC.2.2.2.2.2.2.2.1) rfl ?_
    refine V_iconstv 88 (0) dX5_count_88 (by decide) ?_
    refine V_iv1 89 dX5_count_89 kvX5_154 rfl (by first | exact hC.1 | exact hC.2.1.1 | exact hC.2.2.1.1 | exact hC.2.2.2.1.1 | exact hC.2.2.2.2.1.1 | exact hC.2.2.2.2.2.1.1 | exact hC.2.2.2.2.2.2.1.1 | exact hC.2.2.2.2.2.2.2.1) rfl rfl (c_X0_inState hC.wn ?_)
    refine V_iret 92 dX5_count_92 ?_
    unfold cntR at k
    rw [if_neg sw1_0, if_neg sw1_1, if_neg sw1_2, if_pos sw1_3] at k
    exact k
  by_cases sw1_4 : y = 4
  · refine V_tableIn 1 93 (92) dX5_count_1 (by rw [sw1_4]; decide) (by rw [sw1_4]; decide) (by rw [sw1_4]; rfl) rfl ?_
    refine V_aload_n 93 dX5_count_93 rfl ?_
    refine V_get 94 dX5_count_94 fdX5_31 (by first | exact hC.1 | exact hC.2.1.1 | exact hC.2.2.1.1 | exact hC.2.2.2.1.1 | exact hC.2.2.2.2.1.1 | exact hC.2.2.2.2.2.1.1 | exact hC.2.2.2.2.2.2.1.1 | exact hC.2.2.2.2.2.2.2.1) rfl ?_
    refine V_iconstv 97 (1) dX5_count_97 (by decide) ?_
    refine V_iv1 98 dX5_count_98 kvX5_154 rfl (by first | exact hC.1 | exact hC.2.1.1 | exact hC.2.2.1.1 | exact hC.2.2.2.1.1 | exact hC.2.2.2.2.1.1 | exact hC.2.2.2.2.2.1.1 | exact hC.2.2.2.2.2.2.1.1 | exact hC.2.2.2.2.2.2.2.1) rfl rfl (c_X0_inState hC.wn ?_)
    refine V_iret 101 dX5_count_101 ?_
    unfold cntR at k
    rw [if_neg sw1_0, if_neg sw1_1, if_neg sw1_2, if_neg sw1_3, if_pos sw1_4] at k
    exact k
  by_cases sw1_5 : y = 5
  · refine V_tableIn 1 102 (101) dX5_count_1 (by rw [sw1_5]; decide) (by rw [sw1_5]; decide) (by rw [sw1_5]; rfl) rfl ?_
    refine V_aload_n 102 dX5_count_102 rfl ?_
    refine V_get 103 dX5_count_103 fdX5_31 (by first | exact hC.1 | exact hC.2.1.1 | exact hC.2.2.1.1 | exact hC.2.2.2.1.1 | exact hC.2.2.2.2.1.1 | exact hC.2.2.2.2.2.1.1 | exact hC.2.2.2.2.2.2.1.1 | exact hC.2.2.2.2.2.2.2.1) rfl ?_
    refine V_iconstv 106 (2) dX5_count_106 (by decide) ?_
    refine V_iv1 107 dX5_count_107 kvX5_154 rfl (by first | exact hC.1 | exact hC.2.1.1 | exact hC.2.2.1.1 | exact hC.2.2.2.1.1 | exact hC.2.2.2.2.1.1 | exact hC.2.2.2.2.2.1.1 | exact hC.2.2.2.2.2.2.1.1 | exact hC.2.2.2.2.2.2.2.1) rfl rfl (c_X0_inState hC.wn ?_)
    refine V_iret 110 dX5_count_110 ?_
    unfold cntR at k
    rw [if_neg sw1_0, if_neg sw1_1, if_neg sw1_2, if_neg sw1_3, if_neg sw1_4, if_pos sw1_5] at k
    exact k
  by_cases sw1_6 : y = 6
  · refine V_tableIn 1 111 (110) dX5_count_1 (by rw [sw1_6]; decide) (by rw [sw1_6]; decide) (by rw [sw1_6]; rfl) rfl ?_
    refine V_aload_n 111 dX5_count_111 rfl ?_
    refine V_get 112 dX5_count_112 fdX5_31 (by first | exact hC.1 | exact hC.2.1.1 | exact hC.2.2.1.1 | exact hC.2.2.2.1.1 | exact hC.2.2.2.2.1.1 | exact hC.2.2.2.2.2.1.1 | exact hC.2.2.2.2.2.2.1.1 | exact hC.2.2.2.2.2.2.2.1) rfl ?_
    refine V_iconstv 115 (3) dX5_count_115 (by decide) ?_
    refine V_iv1 116 dX5_count_116 kvX5_154 rfl (by first | exact hC.1 | exact hC.2.1.1 | exact hC.2.2.1.1 | exact hC.2.2.2.1.1 | exact hC.2.2.2.2.1.1 | exact hC.2.2.2.2.2.1.1 | exact hC.2.2.2.2.2.2.1.1 | exact hC.2.2.2.2.2.2.2.1) rfl rfl (c_X0_inState hC.wn ?_)
    refine V_iret 119 dX5_count_119 ?_
    unfold cntR at k
    rw [if_neg sw1_0, if_neg sw1_1, if_neg sw1_2, if_neg sw1_3, if_neg sw1_4, if_neg sw1_5, if_pos sw1_6] at k
    exact k
  by_cases sw1_7 : y = 7
  · refine V_tableIn 1 120 (119) dX5_count_1 (by rw [sw1_7]; decide) (by rw [sw1_7]; decide) (by rw [sw1_7]; rfl) rfl ?_
    refine V_aload_n 120 dX5_count_120 rfl ?_
    refine V_get 121 dX5_count_121 fdX5_31 (by first | exact hC.1 | exact hC.2.1.1 | exact hC.2.2.1.1 | exact hC.2.2.2.1.1 | exact hC.2.2.2.2.1.1 | exact hC.2.2.2.2.2.1.1 | exact hC.2.2.2.2.2.2.1.1 | exact hC.2.2.2.2.2.2.2.1) rfl ?_
    refine V_iconstv 124 (4) dX5_count_124 (by decide) ?_
    refine V_iv1 125 dX5_count_125 kvX5_154 rfl (by first | exact hC.1 | exact hC.2.1.1 | exact hC.2.2.1.1 | exact hC.2.2.2.1.1 | exact hC.2.2.2.2.1.1 | exact hC.2.2.2.2.2.1.1 | exact hC.2.2.2.2.2.2.1.1 | exact hC.2.2.2.2.2.2.2.1) rfl rfl (c_X0_inState hC.wn ?_)
    refine V_iret 128 dX5_count_128 ?_
    unfold cntR at k
    rw [if_neg sw1_0, if_neg sw1_1, if_neg sw1_2, if_neg sw1_3, if_neg sw1_4, if_neg sw1_5, if_neg sw1_6, if_pos sw1_7] at k
    exact k
  by_cases sw1_8 : y = 8
  · refine V_tableIn 1 129 (128) dX5_count_1 (by rw [sw1_8]; decide) (by rw [sw1_8]; decide) (by rw [sw1_8]; rfl) rfl ?_
    refine V_aload_n 129 dX5_count_129 rfl ?_
    refine V_get 130 dX5_count_130 fdX5_31 (by first | exact hC.1 | exact hC.2.1.1 | exact hC.2.2.1.1 | exact hC.2.2.2.1.1 | exact hC.2.2.2.2.1.1 | exact hC.2.2.2.2.2.1.1 | exact hC.2.2.2.2.2.2.1.1 | exact hC.2.2.2.2.2.2.2.1) rfl ?_
    refine V_iv0 133 dX5_count_133 kvX5_150 rfl (by first | exact hC.1 | exact hC.2.1.1 | exact hC.2.2.1.1 | exact hC.2.2.2.1.1 | exact hC.2.2.2.2.1.1 | exact hC.2.2.2.2.2.1.1 | exact hC.2.2.2.2.2.2.1.1 | exact hC.2.2.2.2.2.2.2.1) rfl rfl (c_X0_head hC.wn ?_)
    refine V_iret 136 dX5_count_136 ?_
    unfold cntR at k
    rw [if_neg sw1_0, if_neg sw1_1, if_neg sw1_2, if_neg sw1_3, if_neg sw1_4, if_neg sw1_5, if_neg sw1_6, if_neg sw1_7, if_pos sw1_8] at k
    exact k
  by_cases sw1_9 : y = 9
  · refine V_tableIn 1 137 (136) dX5_count_1 (by rw [sw1_9]; decide) (by rw [sw1_9]; decide) (by rw [sw1_9]; rfl) rfl ?_
    refine V_aload_n 137 dX5_count_137 rfl ?_
    refine V_get 138 dX5_count_138 fdX5_41 (by first | exact hC.1 | exact hC.2.1.1 | exact hC.2.2.1.1 | exact hC.2.2.2.1.1 | exact hC.2.2.2.2.1.1 | exact hC.2.2.2.2.2.1.1 | exact hC.2.2.2.2.2.2.1.1 | exact hC.2.2.2.2.2.2.2.1) rfl ?_
    refine V_get 141 dX5_count_141 fdX5_135 (by first | exact hC.1 | exact hC.2.1.1 | exact hC.2.2.1.1 | exact hC.2.2.2.1.1 | exact hC.2.2.2.2.1.1 | exact hC.2.2.2.2.2.1.1 | exact hC.2.2.2.2.2.2.1.1 | exact hC.2.2.2.2.2.2.2.1) rfl ?_
    refine V_iret 144 dX5_count_144 ?_
    unfold cntR at k
    rw [if_neg sw1_0, if_neg sw1_1, if_neg sw1_2, if_neg sw1_3, if_neg sw1_4, if_neg sw1_5, if_neg sw1_6, if_neg sw1_7, if_neg sw1_8, if_pos sw1_9] at k
    exact k
  by_cases sw1_10 : y = 10
  · refine V_tableIn 1 145 (144) dX5_count_1 (by rw [sw1_10]; decide) (by rw [sw1_10]; decide) (by rw [sw1_10]; rfl) rfl ?_
    refine V_aload_n 145 dX5_count_145 rfl ?_
    refine V_get 146 dX5_count_146 fdX5_10 (by first | exact hC.1 | exact hC.2.1.1 | exact hC.2.2.1.1 | exact hC.2.2.2.1.1 | exact hC.2.2.2.2.1.1 | exact hC.2.2.2.2.2.1.1 | exact hC.2.2.2.2.2.2.1.1 | exact hC.2.2.2.2.2.2.2.1) rfl ?_
    refine V_get 149 dX5_count_149 fdX5_61 (by first | exact hC.1 | exact hC.2.1.1 | exact hC.2.2.1.1 | exact hC.2.2.2.1.1 | exact hC.2.2.2.2.1.1 | exact hC.2.2.2.2.2.1.1 | exact hC.2.2.2.2.2.2.1.1 | exact hC.2.2.2.2.2.2.2.1) rfl ?_
    refine V_iret 152 dX5_count_152 ?_
    unfold cntR at k
    rw [if_neg sw1_0, if_neg sw1_1, if_neg sw1_2, if_neg sw1_3, if_neg sw1_4, if_neg sw1_5, if_neg sw1_6, if_neg sw1_7, if_neg sw1_8, if_neg sw1_9, if_pos sw1_10] at k
    exact k
  have tq0 : ¬ y.toInt = 0 := fun q => sw1_0 (Int32.toInt_inj.mp q)
  have tq1 : ¬ y.toInt = 1 := fun q => sw1_1 (Int32.toInt_inj.mp q)
  have tq2 : ¬ y.toInt = 2 := fun q => sw1_2 (Int32.toInt_inj.mp q)
  have tq3 : ¬ y.toInt = 3 := fun q => sw1_3 (Int32.toInt_inj.mp q)
  have tq4 : ¬ y.toInt = 4 := fun q => sw1_4 (Int32.toInt_inj.mp q)
  have tq5 : ¬ y.toInt = 5 := fun q => sw1_5 (Int32.toInt_inj.mp q)
  have tq6 : ¬ y.toInt = 6 := fun q => sw1_6 (Int32.toInt_inj.mp q)
  have tq7 : ¬ y.toInt = 7 := fun q => sw1_7 (Int32.toInt_inj.mp q)
  have tq8 : ¬ y.toInt = 8 := fun q => sw1_8 (Int32.toInt_inj.mp q)
  have tq9 : ¬ y.toInt = 9 := fun q => sw1_9 (Int32.toInt_inj.mp q)
  have tq10 : ¬ y.toInt = 10 := fun q => sw1_10 (Int32.toInt_inj.mp q)
  refine V_tableOut 1 153 dX5_count_1 (by omega) rfl ?_
  refine V_ldc 153 dX5_count_153 knX5_56 ?_
  refine V_iret 155 dX5_count_155 ?_
  unfold cntR at k
  rw [if_neg sw1_0, if_neg sw1_1, if_neg sw1_2, if_neg sw1_3, if_neg sw1_4, if_neg sw1_5, if_neg sw1_6, if_neg sw1_7, if_neg sw1_8, if_neg sw1_9, if_neg sw1_10] at k
  exact k
end M24
