section M40
variable {B nx hs : Nat} {X : TX} {K : Nat → ET}
variable {l : Launch} {G : zGT} {h h0 : hpT} {sz : Nat} {Post : Option Value → hpT → Nat → Prop} {m r : Nat} {M M0 : MT} {Q : RG} {E : ET}
theorem REL.frm {B nx hs : Nat} {X : TX} {Q : RG} {E : ET} {K : Nat → ET} {M M1 : MT} (h : REL B X Q E nx hs K M) (hF : FRM 0 M M1) : REL B X Q E nx hs K M1 := by
  obtain ⟨a, -, c, -, e, -⟩ := hF
  exact ⟨h.1.of (a _ (by omega)) (a _ (by omega)) (c _ (by omega) (by omega)), h.2.1.of (a _ (by omega)) (c _ (by omega) (by omega)) (c _ (by omega) (by omega)), h.2.2.of h.2.1.2.1 (a _ (by omega)) (fun q hq => e q (by omega))⟩
theorem REL.fx {B nx hs : Nat} {X : TX} {Q : RG} {E : ET} {K : Nat → ET} {M : MT} (h : REL B X Q E nx hs K M) : REL B X Q E nx hs K (mI (mI (mI (mI M 23 0) 24 0) 25 0) 26 0) := h
set_option maxHeartbeats 1000000 in
set_option maxRecDepth 100000 in
theorem c_X6_foresee (hM : WM G h0 h m M) (hR : REL B X Q E nx hs K M) (hB : B < 2 ^ 28) {a y : Int32} (T : Nat → ET) (k0 : ¬ ((1 ≤ a ∧ a ≤ 3) ∧ (0 ≤ y ∧ y ≤ 3)) → Post (some (.int (-1000002))) h sz) (k2 : ((1 ≤ a ∧ a ≤ 3) ∧ (0 ≤ y ∧ y ≤ 3)) → eW E = 0 → Post (some (.int (-1000003))) h sz) (k3 : ((1 ≤ a ∧ a ≤ 3) ∧ (0 ≤ y ∧ y ≤ 3)) → ¬ eW E = 0 → ¬ blE E Q.1 ≤ 6 → Post (some (.int (-1000004))) h sz) (k1 : ((1 ≤ a ∧ a ≤ 3) ∧ (0 ≤ y ∧ y ≤ 3)) → ¬ eW E = 0 → blE E Q.1 ≤ 6 → ∀ N, a = nI N → 1 ≤ N → N ≤ 3 → ∀ h1 M1, WM G h0 h1 m M1 → REL B X Q E nx hs K M1 → Post (some (.int (forR (exE Q N E ((snE E 0, 0, 0, 0, 0), T)).1 y))) h1 sz) : Cn l G yX6_foresee cX6_foresee 3 (some .int) 8 0 0 [.ref m, .int a, .int y] h sz Post := by
  refine Cn.of RX6 false (by decide) rfl (fun q => by cases q) (Nat.le_of_ble_eq_true rfl) ?_
  have hn := hR.2.1.2.1
  have b12 := blE_le E Q.1
  refine V_iload_n 0 dX6_foresee_0 rfl ?_
  refine V_i2l 1 dX6_foresee_1 ?_
  refine V_lconstv 2 1 dX6_foresee_2 (by decide) ?_
  refine V_ldc2 3 dX6_foresee_3 knX6_229 ?_
  refine V_is3 6 dX6_foresee_6 ksX6_45 rfl rfl (c_X6_inI (lo := 1) (hi := 3) rfl rfl (fun c_6 => ?_) (fun c_6 => ?_))
  · refine V_if_eq 9 24 dX6_foresee_9 rfl (fun q => absurd q (by decide)) (fun _ => ?_)
    refine V_iload_n 12 dX6_foresee_12 rfl ?_
    refine V_i2l 13 dX6_foresee_13 ?_
    refine V_lconstv 14 0 dX6_foresee_14 (by decide) ?_
    refine V_ldc2 15 dX6_foresee_15 knX6_229 ?_
    refine V_is3 18 dX6_foresee_18 ksX6_45 rfl rfl (c_X6_inI (lo := 0) (hi := 3) rfl rfl (fun c_18 => ?_) (fun c_18 => ?_))
    · refine V_if_ne 21 27 dX6_foresee_21 rfl (fun _ => ?_) (fun q => absurd q (by decide))
      refine V_aload_n 27 dX6_foresee_27 rfl ?_
      refine V_iv0 28 dX6_foresee_28 kvX6_216 rfl (by first | exact hM.1.1 | exact hM.1.2.1 | exact hM.1.2.2.1 | exact hM.1.2.2.2.1 | exact hM.1.2.2.2.2.1 | exact hM.1.2.2.2.2.2.1 | exact hM.1.2.2.2.2.2.2.1 | exact hM.1.2.2.2.2.2.2.2.1 | exact hM.1.2.2.2.2.2.2.2.2.1 | exact hM.1.2.2.2.2.2.2.2.2.2.1 | exact hM.1.2.2.2.2.2.2.2.2.2.2) rfl rfl (c_X6_isBegunR hM hR (fun c_28 => ?_) (fun c_28 => ?_))
      · refine V_if_ne 31 37 dX6_foresee_31 rfl (fun _ => ?_) (fun q => absurd q (by decide))
        refine V_aload_n 37 dX6_foresee_37 rfl ?_
        refine V_iconstv 38 (0) dX6_foresee_38 (by decide) ?_
        refine V_iv1 39 dX6_foresee_39 kvX6_136 rfl (by first | exact hM.1.1 | exact hM.1.2.1 | exact hM.1.2.2.1 | exact hM.1.2.2.2.1 | exact hM.1.2.2.2.2.1 | exact hM.1.2.2.2.2.2.1 | exact hM.1.2.2.2.2.2.2.1 | exact hM.1.2.2.2.2.2.2.2.1 | exact hM.1.2.2.2.2.2.2.2.2.1 | exact hM.1.2.2.2.2.2.2.2.2.2.1 | exact hM.1.2.2.2.2.2.2.2.2.2.2) rfl rfl (c_X6_manyLinks (hR.wx hM) ?_)
        refine V_bipushv 42 (6) dX6_foresee_42 (by decide) ?_
        refine V_icmp_le 44 50 dX6_foresee_44 rfl (fun c_44 => ?_) (fun c_44 => ?_)
        · have e6 : blE E Q.1 ≤ 6 := (nI_leI (b := 6) (by omega) (by decide)).mp c_44
          refine V_aload_n 50 dX6_foresee_50 rfl ?_
          refine V_iconstv 51 (0) dX6_foresee_51 (by decide) ?_
          refine V_putM 52 dX6_foresee_52 fpX6_251 hM rfl rfl (fun h hM => ?_)
          refine V_aload_n 55 dX6_foresee_55 rfl ?_
          refine V_iconstv 56 (0) dX6_foresee_56 (by decide) ?_
          refine V_putM 57 dX6_foresee_57 fpX6_254 hM rfl rfl (fun h hM => ?_)
          refine V_aload_n 60 dX6_foresee_60 rfl ?_
          refine V_iconstv 61 (0) dX6_foresee_61 (by decide) ?_
          refine V_putM 62 dX6_foresee_62 fpX6_257 hM rfl rfl (fun h hM => ?_)
          refine V_aload_n 65 dX6_foresee_65 rfl ?_
          refine V_iconstv 66 (0) dX6_foresee_66 (by decide) ?_
          refine V_putM 67 dX6_foresee_67 fpX6_248 hM rfl rfl (fun h hM => ?_)
          have hI := (hR.bg.2 c_28).1
          obtain ⟨N, N1, rfl⟩ := nI_of2 (x := a) (M := 3) (n := 3) rfl (Int32.not_lt.mpr (Int32.le_trans (by decide) c_6.1)) c_6.2
          have N0 : 1 ≤ N := (nI_leI (a := 1) (by decide) (by omega)).mp c_6.1
          refine V_aload_n 70 dX6_foresee_70 rfl ?_
          refine V_iload_n 71 dX6_foresee_71 rfl ?_
          refine V_iv1 72 dX6_foresee_72 kvX6_263 rfl (by first | exact hM.1.1 | exact hM.1.2.1 | exact hM.1.2.2.1 | exact hM.1.2.2.2.1 | exact hM.1.2.2.2.2.1 | exact hM.1.2.2.2.2.2.1 | exact hM.1.2.2.2.2.2.2.1 | exact hM.1.2.2.2.2.2.2.2.1 | exact hM.1.2.2.2.2.2.2.2.2.1 | exact hM.1.2.2.2.2.2.2.2.2.2.1 | exact hM.1.2.2.2.2.2.2.2.2.2.2) rfl rfl (c_X6_tries hM N ⟨N0, N1⟩ hB hn (S := ((snE E 0, 0, 0, 0, 0), T)) hI ⟨hR.2.1.1, fun i hi => (hR.2.1.2.2.2 i hi).1, hR.2.2.1.2.2.2.1 0 (by omega)⟩ ⟨rfl, rfl, rfl, rfl⟩ hR.2.2.1 (fun h M1 hM hFR hTF => ?_))
          have KK := k1 ⟨c_6, c_18⟩ c_28 e6 N rfl N0 N1 h _ hM ((hR.fx).frm hFR)
          refine V_iload_n 75 dX6_foresee_75 rfl ?_
          refine V_if_ne 76 86 dX6_foresee_76 rfl (fun c_76 => ?_) (fun c_76 => ?_)
          · refine V_iload_n 86 dX6_foresee_86 rfl ?_
            refine V_iconstv 87 (1) dX6_foresee_87 (by decide) ?_
            refine V_icmp_ne 88 98 dX6_foresee_88 rfl (fun c_88 => ?_) (fun c_88 => ?_)
            · refine V_iload_n 98 dX6_foresee_98 rfl ?_
              refine V_iconstv 99 (2) dX6_foresee_99 (by decide) ?_
              refine V_icmp_ne 100 110 dX6_foresee_100 rfl (fun c_100 => ?_) (fun c_100 => ?_)
              · refine V_aload_n 110 dX6_foresee_110 rfl ?_
                refine V_get 111 dX6_foresee_111 fdX6_248 (by first | exact hM.1.1 | exact hM.1.2.1 | exact hM.1.2.2.1 | exact hM.1.2.2.2.1 | exact hM.1.2.2.2.2.1 | exact hM.1.2.2.2.2.2.1 | exact hM.1.2.2.2.2.2.2.1 | exact hM.1.2.2.2.2.2.2.2.1 | exact hM.1.2.2.2.2.2.2.2.2.1 | exact hM.1.2.2.2.2.2.2.2.2.2.1 | exact hM.1.2.2.2.2.2.2.2.2.2.2) rfl ?_
                refine V_iret 114 dX6_foresee_114 ?_
                first
                | exact pof KK (by unfold forR; rw [if_pos c_76]; exact hTF.1)
                | exact pof KK (by unfold forR; rw [if_neg c_76, if_pos c_88]; exact hTF.2.1)
                | exact pof KK (by unfold forR; rw [if_neg c_76, if_neg c_88, if_pos c_100]; exact hTF.2.2.1)
                | exact pof KK (by unfold forR; rw [if_neg c_76, if_neg c_88, if_neg c_100]; exact hTF.2.2.2)
              · refine V_aload_n 103 dX6_foresee_103 rfl ?_
                refine V_get 104 dX6_foresee_104 fdX6_257 (by first | exact hM.1.1 | exact hM.1.2.1 | exact hM.1.2.2.1 | exact hM.1.2.2.2.1 | exact hM.1.2.2.2.2.1 | exact hM.1.2.2.2.2.2.1 | exact hM.1.2.2.2.2.2.2.1 | exact hM.1.2.2.2.2.2.2.2.1 | exact hM.1.2.2.2.2.2.2.2.2.1 | exact hM.1.2.2.2.2.2.2.2.2.2.1 | exact hM.1.2.2.2.2.2.2.2.2.2.2) rfl ?_
                refine V_goto 107 114 dX6_foresee_107 rfl ?_
                refine V_iret 114 dX6_foresee_114 ?_
                first
                | exact pof KK (by unfold forR; rw [if_pos c_76]; exact hTF.1)
                | exact pof KK (by unfold forR; rw [if_neg c_76, if_pos c_88]; exact hTF.2.1)
                | exact pof KK (by unfold forR; rw [if_neg c_76, if_neg c_88, if_pos c_100]; exact hTF.2.2.1)
                | exact pof KK (by unfold forR; rw [if_neg c_76, if_neg c_88, if_neg c_100]; exact hTF.2.2.2)
            · refine V_aload_n 91 dX6_foresee_91 rfl ?_
              refine V_get 92 dX6_foresee_92 fdX6_254 (by first | exact hM.1.1 | exact hM.1.2.1 | exact hM.1.2.2.1 | exact hM.1.2.2.2.1 | exact hM.1.2.2.2.2.1 | exact hM.1.2.2.2.2.2.1 | exact hM.1.2.2.2.2.2.2.1 | exact hM.1.2.2.2.2.2.2.2.1 | exact hM.1.2.2.2.2.2.2.2.2.1 | exact hM.1.2.2.2.2.2.2.2.2.2.1 | exact hM.1.2.2.2.2.2.2.2.2.2.2) rfl ?_
              refine V_goto 95 114 dX6_foresee_95 rfl ?_
              refine V_iret 114 dX6_foresee_114 ?_
              first
              | exact pof KK (by unfold forR; rw [if_pos c_76]; exact hTF.1)
              | exact pof KK (by unfold forR; rw [if_neg c_76, if_pos c_88]; exact hTF.2.1)
              | exact pof KK (by unfold forR; rw [if_neg c_76, if_neg c_88, if_pos c_100]; exact hTF.2.2.1)
              | exact pof KK (by unfold forR; rw [if_neg c_76, if_neg c_88, if_neg c_100]; exact hTF.2.2.2)
          · refine V_aload_n 79 dX6_foresee_79 rfl ?_
            refine V_get 80 dX6_foresee_80 fdX6_251 (by first | exact hM.1.1 | exact hM.1.2.1 | exact hM.1.2.2.1 | exact hM.1.2.2.2.1 | exact hM.1.2.2.2.2.1 | exact hM.1.2.2.2.2.2.1 | exact hM.1.2.2.2.2.2.2.1 | exact hM.1.2.2.2.2.2.2.2.1 | exact hM.1.2.2.2.2.2.2.2.2.1 | exact hM.1.2.2.2.2.2.2.2.2.2.1 | exact hM.1.2.2.2.2.2.2.2.2.2.2) rfl ?_
            refine V_goto 83 114 dX6_foresee_83 rfl ?_
            refine V_iret 114 dX6_foresee_114 ?_
            first
            | exact pof KK (by unfold forR; rw [if_pos c_76]; exact hTF.1)
            | exact pof KK (by unfold forR; rw [if_neg c_76, if_pos c_88]; exact hTF.2.1)
            | exact pof KK (by unfold forR; rw [if_neg c_76, if_neg c_88, if_pos c_100]; exact hTF.2.2.1)
            | exact pof KK (by unfold forR; rw [if_neg c_76, if_neg c_88, if_neg c_100]; exact hTF.2.2.2)
        · have e6 : ¬ blE E Q.1 ≤ 6 := fun q => c_44 (nI_le (b := 6) q (by decide))
          refine V_ldc 47 dX6_foresee_47 knX6_165 ?_
          refine V_iret 49 dX6_foresee_49 ?_
          exact k3 ⟨c_6, c_18⟩ c_28 e6
      · refine V_if_ne 31 37 dX6_foresee_31 rfl (fun q => absurd q (by decide)) (fun _ => ?_)
        refine V_ldc 34 dX6_foresee_34 knX6_211 ?_
        refine V_iret 36 dX6_foresee_36 ?_
        exact k2 ⟨c_6, c_18⟩ c_28
    · refine V_if_ne 21 27 dX6_foresee_21 rfl (fun q => absurd q (by decide)) (fun _ => ?_)
      refine V_ldc 24 dX6_foresee_24 knX6_161 ?_
      refine V_iret 26 dX6_foresee_26 ?_
      first | exact k0 (fun q => c_6 q.1) | exact k0 (fun q => c_18 q.2)
  · refine V_if_eq 9 24 dX6_foresee_9 rfl (fun _ => ?_) (fun q => absurd q (by decide))
    refine V_ldc 24 dX6_foresee_24 knX6_161 ?_
    refine V_iret 26 dX6_foresee_26 ?_
    first | exact k0 (fun q => c_6 q.1) | exact k0 (fun q => c_18 q.2)
end M40
