theorem nwL_7 : zNw RL 7 5 7 [.null, .null, .null, .null, .null, .null, .null] := ⟨RX5, TX5, tyX5, zc5, tyX5_ok, clL_7, is5, in5, fun j hj => match j, hj with | 0, _ => rfl | 1, _ => rfl | 2, _ => rfl | 3, _ => rfl | 4, _ => rfl | 5, _ => rfl | 6, _ => rfl | q + 7, hq => absurd hq (by omega)⟩
theorem nwL_10 : zNw RL 10 6 31 [.int 0, .null, .null, .null, .int 0, .int 0, .int 0, .int 0, .int 0, .int 0, .int 0, .int 0, .long 0, .null, .int 0, .int 0, .int 0, .int 0, .int 0, .int 0, .int 0, .null, .null, .int 0, .int 0, .int 0, .int 0, .null, .null, .null, .null] := ⟨RX6, TX6, tyX6, zc6, tyX6_ok, clL_10, is6, in6, fun j hj => match j, hj with | 0, _ => rfl | 1, _ => rfl | 2, _ => rfl | 3, _ => rfl | 4, _ => rfl | 5, _ => rfl | 6, _ => rfl | 7, _ => rfl | 8, _ => rfl | 9, _ => rfl | 10, _ => rfl | 11, _ => rfl | 12, _ => rfl | 13, _ => rfl | 14, _ => rfl | 15, _ => rfl | 16, _ => rfl | 17, _ => rfl | 18, _ => rfl | 19, _ => rfl | 20, _ => rfl | 21, _ => rfl | 22, _ => rfl | 23, _ => rfl | 24, _ => rfl | 25, _ => rfl | 26, _ => rfl | 27, _ => rfl | 28, _ => rfl | 29, _ => rfl | 30, _ => rfl | q + 31, hq => absurd hq (by omega)⟩
theorem law_lt {L I : Nat} (hL : L ≤ 2560) (hI : I ≤ 2560) : nI L - 5 < nI I ↔ L < I + 5 := by
  rw [Int32.lt_iff_toInt_lt, show (5 : Int32) = nI 5 from rfl, pk_sub_toInt (by omega) (by omega), nI_toInt (by omega)]
  omega
theorem REL.init : REL 1 X00 Q00 E00 0 0 (fun _ => E00) M00 := ⟨⟨rfl, by decide, fun k hk => absurd hk (Nat.not_lt_zero k), rfl⟩, ⟨rfl, by decide, Or.inl rfl, fun i hi => absurd hi (Nat.not_lt_zero i)⟩, ⟨rfl, fun q => absurd rfl q, rfl, fun k hk => rfl, fun i hi => absurd hi (Nat.not_lt_zero i), fun k j hk => absurd hk (Nat.not_lt_zero k), Nat.zero_le _⟩, rfl, Nat.zero_le _, by decide, fun a ha => absurd ha (Nat.not_lt_zero a), Or.inl ⟨rfl, ⟨rfl, fun i hi => absurd hi (Nat.not_lt_zero i)⟩, rfl⟩⟩
section M52
variable {z : Nat × Nat × (Nat → Int32)} {l : Launch} {G : zGT} {Post : Option Value → hpT → Nat → Prop} {x : Nat}
set_option maxHeartbeats 1000000 in
set_option maxRecDepth 100000 in
theorem law_loop (hL : z.2.1 ≤ 2560) (hP : ∀ h sz, Post (some (.int 1)) h sz) : ∀ (n I B : Nat) (h : hpT) (sz : Nat) (X : TX) (Q Qd : RG) (E Et : ET) (nx hs : Nat) (K : Nat → ET) (S : FT × (Nat → ET)) (M : MT), z.2.1 ≤ I + 5 * n + 4 → I ≤ 2560 → 1 ≤ B → B + 300 * n < 2 ^ 28 → CA G h x X Q Qd E Et nx hs K S → MA G h (x + 138) M → REL B X Q E nx hs K M → VS z l G RL cL_law 4 (some .boolean) false 11 (5 * n) (30 * n) Post 18 [some (.ref z.1), some (.ref x), some (.ref (x + 138)), some (.int (nI I))] [] h sz := by
  intro n
  induction n with
  | zero =>
    intro I B h sz X Q Qd E Et nx hs K S M hn hI0 hB1 hB2 hC hMA hR
    refine VS_iload_n 18 dL_law_18 rfl ?_
    refine VS_aload_n 19 dL_law_19 rfl ?_
    refine VS_slen 20 dL_law_20 ?_
    refine VS_iconstv 21 (5) dL_law_21 (by decide) ?_
    refine VS_isub 22 dL_law_22 ?_
    refine VS_icmp_gt 23 614 dL_law_23 rfl (fun _ => ?_) (fun q => absurd ((law_lt hL hI0).mpr (by omega)) q)
    refine VS_iconstv 614 (1) dL_law_614 (by decide) ?_
    refine VS_zret 615 dL_law_615 (Or.inr rfl) ?_
    exact hP _ _
  | succ n ih =>
    intro I B h sz X Q Qd E Et nx hs K S M hn hI0 hB1 hB2 hC hMA hR
    have kn : z.2.1 ≤ 2560 → I + 5 ≤ z.2.1 → ∀ (h : hpT) (sz B1 : Nat) (X : TX) (Q Qd : RG) (E Et : ET) (nx hs : Nat) (K : Nat → ET) (S : FT × (Nat → ET)) (M : MT), 1 ≤ B1 → B1 ≤ B + 300 → CA G h x X Q Qd E Et nx hs K S → MA G h (x + 138) M → REL B1 X Q E nx hs K M → VS z l G RL cL_law 4 (some .boolean) false 11 (5 * n) (30 * n) Post 608 [some (.ref z.1), some (.ref x), some (.ref (x + 138)), some (.int (nI I))] [] h sz := fun _ hI h sz B1 X Q Qd E Et nx hs K S M hb1 hb2 hC hMA hR => by
      refine VS_iinc 608 (nI (I + 5)) dL_law_608 rfl (nI_add I 5) rfl rfl ?_
      refine VS_goto 611 18 dL_law_611 rfl ?_
      exact ih (I + 5) B1 h sz X Q Qd E Et nx hs K S M (by omega) (by omega) hb1 (by omega) hC hMA hR
    refine VS_iload_n 18 dL_law_18 rfl ?_
    refine VS_aload_n 19 dL_law_19 rfl ?_
    refine VS_slen 20 dL_law_20 ?_
    refine VS_iconstv 21 (5) dL_law_21 (by decide) ?_
    refine VS_isub 22 dL_law_22 ?_
    refine VS_icmp_gt 23 614 dL_law_23 rfl (fun c_23 => ?_) (fun c_23 => ?_)
    · refine VS_iconstv 614 (1) dL_law_614 (by decide) ?_
      refine VS_zret 615 dL_law_615 (Or.inr rfl) ?_
      exact hP _ _
    · have hI : I + 5 ≤ z.2.1 := Nat.le_of_not_lt (fun q => c_23 ((law_lt hL hI0).mpr q))
      refine VS_aload_n 26 dL_law_26 rfl ?_
      refine VS_iload_n 27 dL_law_27 rfl ?_
      refine VS_sld 28 I (nI_clamp (by omega)) dL_law_28 (vp_in_nI (by omega) (by omega)) ?_
      refine VS_bipushv 29 (31) dL_law_29 (by decide) ?_
      refine VS_iand 31 dL_law_31 ?_
      obtain ⟨w, hw⟩ : ∃ w, z.2.2 I &&& 31 = w := ⟨_, rfl⟩
      refine VS_topi w hw ?_
      by_cases sw32_0 : w = 0
      · refine VS_tableIn 32 116 (84) dL_law_32 (by rw [sw32_0]; decide) (by rw [sw32_0]; decide) (by rw [sw32_0]; rfl) rfl ?_
        exact VS_bud (by omega) (by omega) (law_write (n := n) hC hMA hR ⟨hB1, by omega⟩ hI hL (kn hL hI))
      by_cases sw32_1 : w = 1
      · refine VS_tableIn 32 139 (107) dL_law_32 (by rw [sw32_1]; decide) (by rw [sw32_1]; decide) (by rw [sw32_1]; rfl) rfl ?_
        exact VS_bud (by omega) (by omega) (law_ring (n := n) hC hMA hR ⟨hB1, by omega⟩ hI hL (kn hL hI))
      by_cases sw32_2 : w = 2
      · refine VS_tableIn 32 152 (120) dL_law_32 (by rw [sw32_2]; decide) (by rw [sw32_2]; decide) (by rw [sw32_2]; rfl) rfl ?_
        exact VS_bud (by omega) (by omega) (law_fault (n := n) hC hMA hR ⟨hB1, by omega⟩ hI hL (kn hL hI))
      by_cases sw32_3 : w = 3
      · refine VS_tableIn 32 165 (133) dL_law_32 (by rw [sw32_3]; decide) (by rw [sw32_3]; decide) (by rw [sw32_3]; rfl) rfl ?_
        exact VS_bud (by omega) (by omega) (law_begin (n := n) hC hMA hR ⟨hB1, by omega⟩ hI hL (kn hL hI))
      by_cases sw32_4 : w = 4
      · refine VS_tableIn 32 208 (176) dL_law_32 (by rw [sw32_4]; decide) (by rw [sw32_4]; decide) (by rw [sw32_4]; rfl) rfl ?_
        exact VS_bud (by omega) (by omega) (law_wake (n := n) hC hMA hR ⟨hB1, by omega⟩ hI hL (kn hL hI))
      by_cases sw32_5 : w = 5
      · refine VS_tableIn 32 231 (199) dL_law_32 (by rw [sw32_5]; decide) (by rw [sw32_5]; decide) (by rw [sw32_5]; rfl) rfl ?_
        exact VS_bud (by omega) (by omega) (law_deliver (n := n) hC hMA hR ⟨hB1, by omega⟩ hI hL (kn hL hI))
      by_cases sw32_6 : w = 6
      · refine VS_tableIn 32 254 (222) dL_law_32 (by rw [sw32_6]; decide) (by rw [sw32_6]; decide) (by rw [sw32_6]; rfl) rfl ?_
        exact VS_bud (by omega) (by omega) (law_run (n := n) hC hMA hR ⟨hB1, by omega⟩ hI hL (kn hL hI))
      by_cases sw32_7 : w = 7
      · refine VS_tableIn 32 297 (265) dL_law_32 (by rw [sw32_7]; decide) (by rw [sw32_7]; decide) (by rw [sw32_7]; rfl) rfl ?_
        exact VS_bud (by omega) (by omega) (law_undo (n := n) hC hMA hR ⟨hB1, by omega⟩ hI hL (kn hL hI))
      by_cases sw32_8 : w = 8
      · refine VS_tableIn 32 310 (278) dL_law_32 (by rw [sw32_8]; decide) (by rw [sw32_8]; decide) (by rw [sw32_8]; rfl) rfl ?_
        exact VS_bud (by omega) (by omega) (law_contender (n := n) hC hMA hR ⟨hB1, by omega⟩ hI hL (kn hL hI))
      by_cases sw32_9 : w = 9
      · refine VS_tableIn 32 343 (311) dL_law_32 (by rw [sw32_9]; decide) (by rw [sw32_9]; decide) (by rw [sw32_9]; rfl) rfl ?_
        exact VS_bud (by omega) (by omega) (law_link (n := n) hC hMA hR ⟨hB1, by omega⟩ hI hL (kn hL hI))
      by_cases sw32_10 : w = 10
      · refine VS_tableIn 32 366 (334) dL_law_32 (by rw [sw32_10]; decide) (by rw [sw32_10]; decide) (by rw [sw32_10]; rfl) rfl ?_
        exact VS_bud (by omega) (by omega) (law_letter (n := n) hC hMA hR ⟨hB1, by omega⟩ hI hL (kn hL hI))
      by_cases sw32_11 : w = 11
      · refine VS_tableIn 32 409 (377) dL_law_32 (by rw [sw32_11]; decide) (by rw [sw32_11]; decide) (by rw [sw32_11]; rfl) rfl ?_
        exact VS_bud (by omega) (by omega) (law_sent (n := n) hC hMA hR ⟨hB1, by omega⟩ hI hL (kn hL hI))
      by_cases sw32_12 : w = 12
      · refine VS_tableIn 32 432 (400) dL_law_32 (by rw [sw32_12]; decide) (by rw [sw32_12]; decide) (by rw [sw32_12]; rfl) rfl ?_
        exact VS_bud (by omega) (by omega) (law_would (n := n) hC hMA hR ⟨hB1, by omega⟩ hI hL (kn hL hI))
      by_cases sw32_13 : w = 13
      · refine VS_tableIn 32 475 (443) dL_law_32 (by rw [sw32_13]; decide) (by rw [sw32_13]; decide) (by rw [sw32_13]; rfl) rfl ?_
        exact VS_bud (by omega) (by omega) (law_foresee (n := n) hC hMA hR ⟨hB1, by omega⟩ hI hL (kn hL hI))
      by_cases sw32_14 : w = 14
      · refine VS_tableIn 32 508 (476) dL_law_32 (by rw [sw32_14]; decide) (by rw [sw32_14]; decide) (by rw [sw32_14]; rfl) rfl ?_
        exact VS_bud (by omega) (by omega) (law_sit (n := n) hC hMA hR ⟨hB1, by omega⟩ hI hL (kn hL hI))
      by_cases sw32_15 : w = 15
      · refine VS_tableIn 32 531 (499) dL_law_32 (by rw [sw32_15]; decide) (by rw [sw32_15]; decide) (by rw [sw32_15]; rfl) rfl ?_
        exact VS_bud (by omega) (by omega) (law_chance (n := n) hC hMA hR ⟨hB1, by omega⟩ hI hL (kn hL hI))
      by_cases sw32_16 : w = 16
      · refine VS_tableIn 32 585 (553) dL_law_32 (by rw [sw32_16]; decide) (by rw [sw32_16]; decide) (by rw [sw32_16]; rfl) rfl ?_
        exact VS_bud (by omega) (by omega) (law_count (n := n) hC hMA hR ⟨hB1, by omega⟩ hI hL (kn hL hI))
      have tq0 : ¬ w.toInt = 0 := fun q => sw32_0 (Int32.toInt_inj.mp q)
      have tq1 : ¬ w.toInt = 1 := fun q => sw32_1 (Int32.toInt_inj.mp q)
      have tq2 : ¬ w.toInt = 2 := fun q => sw32_2 (Int32.toInt_inj.mp q)
      have tq3 : ¬ w.toInt = 3 := fun q => sw32_3 (Int32.toInt_inj.mp q)
      have tq4 : ¬ w.toInt = 4 := fun q => sw32_4 (Int32.toInt_inj.mp q)
      have tq5 : ¬ w.toInt = 5 := fun q => sw32_5 (Int32.toInt_inj.mp q)
      have tq6 : ¬ w.toInt = 6 := fun q => sw32_6 (Int32.toInt_inj.mp q)
      have tq7 : ¬ w.toInt = 7 := fun q => sw32_7 (Int32.toInt_inj.mp q)
      have tq8 : ¬ w.toInt = 8 := fun q => sw32_8 (Int32.toInt_inj.mp q)
      have tq9 : ¬ w.toInt = 9 := fun q => sw32_9 (Int32.toInt_inj.mp q)
      have tq10 : ¬ w.toInt = 10 := fun q => sw32_10 (Int32.toInt_inj.mp q)
      have tq11 : ¬ w.toInt = 11 := fun q => sw32_11 (Int32.toInt_inj.mp q)
      have tq12 : ¬ w.toInt = 12 := fun q => sw32_12 (Int32.toInt_inj.mp q)
      have tq13 : ¬ w.toInt = 13 := fun q => sw32_13 (Int32.toInt_inj.mp q)
      have tq14 : ¬ w.toInt = 14 := fun q => sw32_14 (Int32.toInt_inj.mp q)
      have tq15 : ¬ w.toInt = 15 := fun q => sw32_15 (Int32.toInt_inj.mp q)
      have tq16 : ¬ w.toInt = 16 := fun q => sw32_16 (Int32.toInt_inj.mp q)
      refine VS_tableOut 32 608 dL_law_32 (by omega) rfl ?_
      exact VS_bud (by omega) (by omega) (kn hL hI h sz B X Q Qd E Et nx hs K S M hB1 (by omega) hC hMA hR)
set_option maxHeartbeats 1000000 in
set_option maxRecDepth 100000 in
theorem law_start {b L : Nat} {xs : Nat → Int32} (hL : L ≤ 2560) (hP : ∀ h sz, Post (some (.int 1)) h sz) : VS (b, L, xs) l G RL cL_law 4 (some .boolean) false 11 2709 23341 Post 0 [some (.ref b)] [] (fun _ => none) x := by
  refine VS_new (kc := 2708) (ks := 23334) 0 dL_law_0 nwL_7 ?_
  refine VS_dupr 3 dL_law_3 ?_
  refine VS_callI (kc1 := 137) (ks1 := 3657) (kc := 2571) (ks := 19677) 4 (As := []) dL_law_4 kiL_9 rfl rfl rfl rfl (c_X5_init (hpS_self _ _ _) (fun h1 hC _ => ?_))
  refine VS_astore_n 7 dL_law_7 rfl rfl ?_
  refine VS_new (kc := 2570) (ks := 19646) 8 dL_law_8 nwL_10 ?_
  replace hC := hC.frO (Fr1 h1 (x + 138) (ob 6 [.int 0, .null, .null, .null, .int 0, .int 0, .int 0, .int 0, .int 0, .int 0, .int 0, .int 0, .long 0, .null, .int 0, .int 0, .int 0, .int 0, .int 0, .int 0, .int 0, .null, .null, .int 0, .int 0, .int 0, .int 0, .null, .null, .null, .null])) (Or.inr (Nat.le_refl _))
  refine VS_dupr 11 dL_law_11 ?_
  refine VS_callI (kc1 := 10) (ks1 := 4286) (kc := 2560) (ks := 15360) 12 (As := []) dL_law_12 kiL_12 rfl rfl rfl rfl (c_X6_init (hpS_self _ _ _) (fun h2 hMA hLo => ?_))
  replace hC := hC.lo hLo (Nat.le_refl _)
  refine VS_astore_n 15 dL_law_15 rfl rfl ?_
  refine VS_iconstv 16 (0) dL_law_16 (by decide) ?_
  refine VS_istore_n 17 dL_law_17 rfl rfl ?_
  exact law_loop (z := (b, L, xs)) hL hP 512 0 1 h2 _ X00 Q00 Q00 E00 E00 0 0 _ _ M00 (by show L ≤ _; omega) (by omega) (by omega) (by omega) hC hMA REL.init
end M52
