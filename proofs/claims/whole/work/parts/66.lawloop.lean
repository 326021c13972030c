theorem ts_out37 {x : Int32} (c0 : ¬ x = 0) (c1 : ¬ x = 1) (c2 : ¬ x = 2) (c3 : ¬ x = 3) (c4 : ¬ x = 4) (c5 : ¬ x = 5) (c6 : ¬ x = 6) (c7 : ¬ x = 7) (c8 : ¬ x = 8) (c9 : ¬ x = 9) (c10 : ¬ x = 10) (c11 : ¬ x = 11) (c12 : ¬ x = 12) (c13 : ¬ x = 13) (c14 : ¬ x = 14) (c15 : ¬ x = 15) (c16 : ¬ x = 16) (c17 : ¬ x = 17) (c18 : ¬ x = 18) (c19 : ¬ x = 19) (c20 : ¬ x = 20) (c21 : ¬ x = 21) (c22 : ¬ x = 22) (c23 : ¬ x = 23) (c24 : ¬ x = 24) (c25 : ¬ x = 25) (c26 : ¬ x = 26) (c27 : ¬ x = 27) (c28 : ¬ x = 28) (c29 : ¬ x = 29) (c30 : ¬ x = 30) (c31 : ¬ x = 31) (c32 : ¬ x = 32) (c33 : ¬ x = 33) (c34 : ¬ x = 34) (c35 : ¬ x = 35) (c36 : ¬ x = 36) : x.toInt < 0 ∨ 36 < x.toInt := by
  have e0 : ¬ x.toInt = 0 := fun q => c0 (ib_eq.mpr q)
  have e1 : ¬ x.toInt = 1 := fun q => c1 (ib_eq.mpr q)
  have e2 : ¬ x.toInt = 2 := fun q => c2 (ib_eq.mpr q)
  have e3 : ¬ x.toInt = 3 := fun q => c3 (ib_eq.mpr q)
  have e4 : ¬ x.toInt = 4 := fun q => c4 (ib_eq.mpr q)
  have e5 : ¬ x.toInt = 5 := fun q => c5 (ib_eq.mpr q)
  have e6 : ¬ x.toInt = 6 := fun q => c6 (ib_eq.mpr q)
  have e7 : ¬ x.toInt = 7 := fun q => c7 (ib_eq.mpr q)
  have e8 : ¬ x.toInt = 8 := fun q => c8 (ib_eq.mpr q)
  have e9 : ¬ x.toInt = 9 := fun q => c9 (ib_eq.mpr q)
  have e10 : ¬ x.toInt = 10 := fun q => c10 (ib_eq.mpr q)
  have e11 : ¬ x.toInt = 11 := fun q => c11 (ib_eq.mpr q)
  have e12 : ¬ x.toInt = 12 := fun q => c12 (ib_eq.mpr q)
  have e13 : ¬ x.toInt = 13 := fun q => c13 (ib_eq.mpr q)
  have e14 : ¬ x.toInt = 14 := fun q => c14 (ib_eq.mpr q)
  have e15 : ¬ x.toInt = 15 := fun q => c15 (ib_eq.mpr q)
  have e16 : ¬ x.toInt = 16 := fun q => c16 (ib_eq.mpr q)
  have e17 : ¬ x.toInt = 17 := fun q => c17 (ib_eq.mpr q)
  have e18 : ¬ x.toInt = 18 := fun q => c18 (ib_eq.mpr q)
  have e19 : ¬ x.toInt = 19 := fun q => c19 (ib_eq.mpr q)
  have e20 : ¬ x.toInt = 20 := fun q => c20 (ib_eq.mpr q)
  have e21 : ¬ x.toInt = 21 := fun q => c21 (ib_eq.mpr q)
  have e22 : ¬ x.toInt = 22 := fun q => c22 (ib_eq.mpr q)
  have e23 : ¬ x.toInt = 23 := fun q => c23 (ib_eq.mpr q)
  have e24 : ¬ x.toInt = 24 := fun q => c24 (ib_eq.mpr q)
  have e25 : ¬ x.toInt = 25 := fun q => c25 (ib_eq.mpr q)
  have e26 : ¬ x.toInt = 26 := fun q => c26 (ib_eq.mpr q)
  have e27 : ¬ x.toInt = 27 := fun q => c27 (ib_eq.mpr q)
  have e28 : ¬ x.toInt = 28 := fun q => c28 (ib_eq.mpr q)
  have e29 : ¬ x.toInt = 29 := fun q => c29 (ib_eq.mpr q)
  have e30 : ¬ x.toInt = 30 := fun q => c30 (ib_eq.mpr q)
  have e31 : ¬ x.toInt = 31 := fun q => c31 (ib_eq.mpr q)
  have e32 : ¬ x.toInt = 32 := fun q => c32 (ib_eq.mpr q)
  have e33 : ¬ x.toInt = 33 := fun q => c33 (ib_eq.mpr q)
  have e34 : ¬ x.toInt = 34 := fun q => c34 (ib_eq.mpr q)
  have e35 : ¬ x.toInt = 35 := fun q => c35 (ib_eq.mpr q)
  have e36 : ¬ x.toInt = 36 := fun q => c36 (ib_eq.mpr q)
  omega
set_option maxHeartbeats 4000000 in
set_option maxRecDepth 100000 in
theorem law_loop {p : Program} {l : Launch} {e : Env} {s : State} {m : MethodId} {below : List Frame} {meth : Method} {c : Code} {dC : Nat → ClassId} {dI : Nat → Nat → Nat} {cy : Nat → ClassId} {cI cB cZ : ClassId} {h : Nat} {a : Nat → Nat} {b L : Nat} {xs : Nat → Int32} (hL : L ≤ 3584) (C0 : lw_At p s m meth c b L xs) (hSt : lS s dC dI cy cI cB cZ) (qx : Nat) : ∀ (n k i1 : Nat), i1 = 7 * k → L + 1 ≤ i1 + 7 * n → ∀ (H : Heap) (locs : List Loc), lI s dC dI cy cI cB cZ h a qx H locs → ∀ (ls : Array Slot), lv_has ls 4 [(0, .ref b), (1, .ref qx), (2, .ref h), (3, .int (nI i1))] → k ≤ 512 → W p l e room_1 s m #[Value.ref b] below meth c H locs (100 + 2 * k) (3000 + 12 * k) (lw_Z below #[Value.ref b] s) (F0 m 18 ls []) := by
  intro n
  induction n with
  | zero =>
    intro k i1 hik hn H locs hv9 ls hl hk
    obtain ⟨hx, hb, hr, hml, hown, hts0, hX, hbl, hlocks, hgv⟩ := id C0
    obtain ⟨F, M, Y, rl, ad, hv, hq, hrl, hPX, hDX, hPR, hDR, hS, hAR⟩ := id hv9
    have hbA : ¬ A0 s b := Nat.not_le.mpr hbl
    refine lv_iload_n hx hb dL_law_18 rfl (lv_at hl 3 rfl) ?_
    refine lv_aload_n hx hb dL_law_19 rfl (lv_at hl 0 rfl) ?_
    refine va_slen hx hb hX hbl hbA hS dL_law_20 ?_
    refine lv_bipush (v := 7) hx hb dL_law_21 (by decide) ?_
    refine lv_isub hx hb dL_law_23 ?_
    have e7 : (Int32.ofNat L - 7).toInt = (L : Int) - 7 := by
      rw [show Int32.ofNat L = nI L from rfl, ib_sub (by rw [nI_toInt (by omega), show (7 : Int32).toInt = 7 from by decide]; omega) (by rw [nI_toInt (by omega), show (7 : Int32).toInt = 7 from by decide]; omega), nI_toInt (by omega), show (7 : Int32).toInt = 7 from by decide]
    have ei : (nI i1).toInt = (i1 : Int) := nI_toInt (by omega)
    refine lv_icmp_gt (tgt := 1458) hx hb dL_law_24 (by decide) (fun _ => ?_) (fun q => absurd (ib_lt.mpr (by rw [e7, ei]; omega)) q)
    refine lv_iconst (v := 1) hx hb dL_law_1458 (by decide) ?_
    refine va_forget (fun q hq => hS.2.2 q hq) ?_
    refine W.widen (k := 600000) (n := 7302250) (by omega) (by omega) ?_
    exact lw_ret hx hb hr hlocks dL_law_1459
  | succ n ih =>
    intro k i1 hik hn H locs hv9 ls hl hk
    obtain ⟨hx, hb, hr, hml, hown, hts0, hX, hbl, hlocks, hgv⟩ := id C0
    obtain ⟨F, M, Y, rl, ad, hv, hq, hrl, hPX, hDX, hPR, hDR, hS, hAR⟩ := id hv9
    have hbA : ¬ A0 s b := Nat.not_le.mpr hbl
    refine lv_iload_n hx hb dL_law_18 rfl (lv_at hl 3 rfl) ?_
    refine lv_aload_n hx hb dL_law_19 rfl (lv_at hl 0 rfl) ?_
    refine va_slen hx hb hX hbl hbA hS dL_law_20 ?_
    refine lv_bipush (v := 7) hx hb dL_law_21 (by decide) ?_
    refine lv_isub hx hb dL_law_23 ?_
    have e7 : (Int32.ofNat L - 7).toInt = (L : Int) - 7 := by
      rw [show Int32.ofNat L = nI L from rfl, ib_sub (by rw [nI_toInt (by omega), show (7 : Int32).toInt = 7 from by decide]; omega) (by rw [nI_toInt (by omega), show (7 : Int32).toInt = 7 from by decide]; omega), nI_toInt (by omega), show (7 : Int32).toInt = 7 from by decide]
    have ei : (nI i1).toInt = (i1 : Int) := nI_toInt (by omega)
    refine lv_icmp_gt (tgt := 1458) hx hb dL_law_24 (by decide) (fun _ => ?_) (fun cc => ?_)
    · refine lv_iconst (v := 1) hx hb dL_law_1458 (by decide) ?_
      refine va_forget (fun q hq => hS.2.2 q hq) ?_
      refine W.widen (k := 600000) (n := 7302250) (by omega) (by omega) ?_
      exact lw_ret hx hb hr hlocks dL_law_1459
    · have hi7 : i1 + 7 ≤ L := by
        rcases Nat.lt_or_ge L (i1 + 7) with q | q
        · exact absurd (ib_lt.mpr (by rw [e7, ei]; omega)) cc
        · exact q
      have KK : ∀ (H1 : Heap) (locs1 : List Loc) (ls1 : Array Slot), lI s dC dI cy cI cB cZ h a qx H1 locs1 → lv_has ls1 4 [(0, .ref b), (1, .ref qx), (2, .ref h), (3, .int (nI i1))] → W p l e room_1 s m #[Value.ref b] below meth c H1 locs1 (100 + 2 * (k + 1)) (3000 + 12 * (k + 1)) (lw_Z below #[Value.ref b] s) (F0 m 1452 ls1 []) := by
        intro H1 locs1 ls1 hv1 hl1
        refine lv_iinc (v := nI (i1 + 7)) (lv' := [(3, .int (nI (i1 + 7))), (0, .ref b), (1, .ref qx), (2, .ref h)]) hx hb dL_law_1452 hl1 (k := 3) rfl (by exact nI_add i1 7) (by decide) rfl (fun ls hl => ?_)
        refine lv_goto (tgt := 18) hx hb dL_law_1455 (by decide) ?_
        exact ih (k + 1) (i1 + 7) (by omega) (by omega) H1 locs1 hv1 ls (lv_sub hl [1, 2, 3, 0] rfl) (by omega)
      refine lv_aload_n hx hb dL_law_27 rfl (lv_at hl 0 rfl) ?_
      refine lv_iload_n hx hb dL_law_28 rfl (lv_at hl 3 rfl) ?_
      refine va_sld hx hb hX hbl hbA hS (vp_in_nI (show i1 < L by omega) (by omega)) dL_law_29 ?_
      rw [nI_clamp (show i1 < 2 ^ 31 by omega)]
      refine lv_bipush (v := 63) hx hb dL_law_30 (by decide) ?_
      refine lv_iand hx hb dL_law_32 ?_
      generalize xs i1 &&& 63 = w9
      by_cases z0 : w9 = 0
      · refine lv_tableIn (tgt := 196) (off := 163) hx hb dL_law_33 (by rw [z0]; decide) (by rw [z0]; decide) (by rw [z0]; decide +kernel) (by decide) ?_
        exact lc_later hL C0 hSt k i1 hik hi7 qx H locs hv9 ls hl KK
      by_cases z1 : w9 = 1
      · refine lv_tableIn (tgt := 219) (off := 186) hx hb dL_law_33 (by rw [z1]; decide) (by rw [z1]; decide) (by rw [z1]; decide +kernel) (by decide) ?_
        exact lc_fellow hL C0 hSt k i1 hik hi7 qx H locs hv9 ls hl KK
      by_cases z2 : w9 = 2
      · refine lv_tableIn (tgt := 232) (off := 199) hx hb dL_law_33 (by rw [z2]; decide) (by rw [z2]; decide) (by rw [z2]; decide +kernel) (by decide) ?_
        exact lc_post hL C0 hSt k i1 hik hi7 qx H locs hv9 ls hl KK
      by_cases z3 : w9 = 3
      · refine lv_tableIn (tgt := 275) (off := 242) hx hb dL_law_33 (by rw [z3]; decide) (by rw [z3]; decide) (by rw [z3]; decide +kernel) (by decide) ?_
        exact lc_paper hL C0 hSt k i1 hik hi7 qx H locs hv9 ls hl KK
      by_cases z4 : w9 = 4
      · refine lv_tableIn (tgt := 338) (off := 305) hx hb dL_law_33 (by rw [z4]; decide) (by rw [z4]; decide) (by rw [z4]; decide +kernel) (by decide) ?_
        exact lc_note hL C0 hSt k i1 hik hi7 qx H locs hv9 ls hl KK
      by_cases z5 : w9 = 5
      · refine lv_tableIn (tgt := 381) (off := 348) hx hb dL_law_33 (by rw [z5]; decide) (by rw [z5]; decide) (by rw [z5]; decide +kernel) (by decide) ?_
        exact lc_open hL C0 hSt k i1 hik hi7 qx H locs hv9 ls hl KK
      by_cases z6 : w9 = 6
      · refine lv_tableIn (tgt := 424) (off := 391) hx hb dL_law_33 (by rw [z6]; decide) (by rw [z6]; decide) (by rw [z6]; decide +kernel) (by decide) ?_
        exact lc_told hL C0 hSt k i1 hik hi7 qx H locs hv9 ls hl KK
      by_cases z7 : w9 = 7
      · refine lv_tableIn (tgt := 457) (off := 424) hx hb dL_law_33 (by rw [z7]; decide) (by rw [z7]; decide) (by rw [z7]; decide +kernel) (by decide) ?_
        exact lc_mark hL C0 hSt k i1 hik hi7 qx H locs hv9 ls hl KK
      by_cases z8 : w9 = 8
      · refine lv_tableIn (tgt := 490) (off := 457) hx hb dL_law_33 (by rw [z8]; decide) (by rw [z8]; decide) (by rw [z8]; decide +kernel) (by decide) ?_
        exact lc_known hL C0 hSt k i1 hik hi7 qx H locs hv9 ls hl KK
      by_cases z9 : w9 = 9
      · refine lv_tableIn (tgt := 533) (off := 500) hx hb dL_law_33 (by rw [z9]; decide) (by rw [z9]; decide) (by rw [z9]; decide +kernel) (by decide) ?_
        exact lc_statute hL C0 hSt k i1 hik hi7 qx H locs hv9 ls hl KK
      by_cases z10 : w9 = 10
      · refine lv_tableIn (tgt := 592) (off := 559) hx hb dL_law_33 (by rw [z10]; decide) (by rw [z10]; decide) (by rw [z10]; decide +kernel) (by decide) ?_
        exact lc_force hL C0 hSt k i1 hik hi7 qx H locs hv9 ls hl KK
      by_cases z11 : w9 = 11
      · refine lv_tableIn (tgt := 615) (off := 582) hx hb dL_law_33 (by rw [z11]; decide) (by rw [z11]; decide) (by rw [z11]; decide +kernel) (by decide) ?_
        exact lc_when hL C0 hSt k i1 hik hi7 qx H locs hv9 ls hl KK
      by_cases z12 : w9 = 12
      · refine lv_tableIn (tgt := 684) (off := 651) hx hb dL_law_33 (by rw [z12]; decide) (by rw [z12]; decide) (by rw [z12]; decide +kernel) (by decide) ?_
        exact lc_first hL C0 hSt k i1 hik hi7 qx H locs hv9 ls hl KK
      by_cases z13 : w9 = 13
      · refine lv_tableIn (tgt := 727) (off := 694) hx hb dL_law_33 (by rw [z13]; decide) (by rw [z13]; decide) (by rw [z13]; decide +kernel) (by decide) ?_
        exact lc_mean hL C0 hSt k i1 hik hi7 qx H locs hv9 ls hl KK
      by_cases z14 : w9 = 14
      · refine lv_tableIn (tgt := 740) (off := 707) hx hb dL_law_33 (by rw [z14]; decide) (by rw [z14]; decide) (by rw [z14]; decide +kernel) (by decide) ?_
        exact lc_byelaw hL C0 hSt k i1 hik hi7 qx H locs hv9 ls hl KK
      by_cases z15 : w9 = 15
      · refine lv_tableIn (tgt := 815) (off := 782) hx hb dL_law_33 (by rw [z15]; decide) (by rw [z15]; decide) (by rw [z15]; decide +kernel) (by decide) ?_
        exact lc_candidate hL C0 hSt k i1 hik hi7 qx H locs hv9 ls hl KK
      by_cases z16 : w9 = 16
      · refine lv_tableIn (tgt := 838) (off := 805) hx hb dL_law_33 (by rw [z16]; decide) (by rw [z16]; decide) (by rw [z16]; decide +kernel) (by decide) ?_
        exact lc_propose hL C0 hSt k i1 hik hi7 qx H locs hv9 ls hl KK
      by_cases z17 : w9 = 17
      · refine lv_tableIn (tgt := 871) (off := 838) hx hb dL_law_33 (by rw [z17]; decide) (by rw [z17]; decide) (by rw [z17]; decide +kernel) (by decide) ?_
        exact lc_withdraw hL C0 hSt k i1 hik hi7 qx H locs hv9 ls hl KK
      by_cases z18 : w9 = 18
      · refine lv_tableIn (tgt := 894) (off := 861) hx hb dL_law_33 (by rw [z18]; decide) (by rw [z18]; decide) (by rw [z18]; decide +kernel) (by decide) ?_
        exact lc_ballot hL C0 hSt k i1 hik hi7 qx H locs hv9 ls hl KK
      by_cases z19 : w9 = 19
      · refine lv_tableIn (tgt := 937) (off := 904) hx hb dL_law_33 (by rw [z19]; decide) (by rw [z19]; decide) (by rw [z19]; decide +kernel) (by decide) ?_
        exact lc_medal hL C0 hSt k i1 hik hi7 qx H locs hv9 ls hl KK
      by_cases z20 : w9 = 20
      · refine lv_tableIn (tgt := 980) (off := 947) hx hb dL_law_33 (by rw [z20]; decide) (by rw [z20]; decide) (by rw [z20]; decide +kernel) (by decide) ?_
        exact lc_award hL C0 hSt k i1 hik hi7 qx H locs hv9 ls hl KK
      by_cases z21 : w9 = 21
      · refine lv_tableIn (tgt := 1013) (off := 980) hx hb dL_law_33 (by rw [z21]; decide) (by rw [z21]; decide) (by rw [z21]; decide +kernel) (by decide) ?_
        exact lc_medals hL C0 hSt k i1 hik hi7 qx H locs hv9 ls hl KK
      by_cases z22 : w9 = 22
      · refine lv_tableIn (tgt := 1046) (off := 1013) hx hb dL_law_33 (by rw [z22]; decide) (by rw [z22]; decide) (by rw [z22]; decide +kernel) (by decide) ?_
        exact lc_stock hL C0 hSt k i1 hik hi7 qx H locs hv9 ls hl KK
      by_cases z23 : w9 = 23
      · refine lv_tableIn (tgt := 1089) (off := 1056) hx hb dL_law_33 (by rw [z23]; decide) (by rw [z23]; decide) (by rw [z23]; decide +kernel) (by decide) ?_
        exact lc_copies hL C0 hSt k i1 hik hi7 qx H locs hv9 ls hl KK
      by_cases z24 : w9 = 24
      · refine lv_tableIn (tgt := 1122) (off := 1089) hx hb dL_law_33 (by rw [z24]; decide) (by rw [z24]; decide) (by rw [z24]; decide +kernel) (by decide) ?_
        exact lc_sheet hL C0 hSt k i1 hik hi7 qx H locs hv9 ls hl KK
      by_cases z25 : w9 = 25
      · refine lv_tableIn (tgt := 1155) (off := 1122) hx hb dL_law_33 (by rw [z25]; decide) (by rw [z25]; decide) (by rw [z25]; decide +kernel) (by decide) ?_
        exact lc_lay hL C0 hSt k i1 hik hi7 qx H locs hv9 ls hl KK
      by_cases z26 : w9 = 26
      · refine lv_tableIn (tgt := 1198) (off := 1165) hx hb dL_law_33 (by rw [z26]; decide) (by rw [z26]; decide) (by rw [z26]; decide +kernel) (by decide) ?_
        exact lc_tear hL C0 hSt k i1 hik hi7 qx H locs hv9 ls hl KK
      by_cases z27 : w9 = 27
      · refine lv_tableIn (tgt := 1221) (off := 1188) hx hb dL_law_33 (by rw [z27]; decide) (by rw [z27]; decide) (by rw [z27]; decide +kernel) (by decide) ?_
        exact lc_copy hL C0 hSt k i1 hik hi7 qx H locs hv9 ls hl KK
      by_cases z28 : w9 = 28
      · refine lv_tableIn (tgt := 1284) (off := 1251) hx hb dL_law_33 (by rw [z28]; decide) (by rw [z28]; decide) (by rw [z28]; decide +kernel) (by decide) ?_
        exact lc_fill hL C0 hSt k i1 hik hi7 qx H locs hv9 ls hl KK
      by_cases z29 : w9 = 29
      · refine lv_tableIn (tgt := 1317) (off := 1284) hx hb dL_law_33 (by rw [z29]; decide) (by rw [z29]; decide) (by rw [z29]; decide +kernel) (by decide) ?_
        exact lc_lacks hL C0 hSt k i1 hik hi7 qx H locs hv9 ls hl KK
      by_cases z30 : w9 = 30
      · refine lv_tableIn (tgt := 1330) (off := 1297) hx hb dL_law_33 (by rw [z30]; decide) (by rw [z30]; decide) (by rw [z30]; decide +kernel) (by decide) ?_
        exact lc_swaps hL C0 hSt k i1 hik hi7 qx H locs hv9 ls hl KK
      by_cases z31 : w9 = 31
      · refine lv_tableIn (tgt := 1353) (off := 1320) hx hb dL_law_33 (by rw [z31]; decide) (by rw [z31]; decide) (by rw [z31]; decide +kernel) (by decide) ?_
        exact lc_whole hL C0 hSt k i1 hik hi7 qx H locs hv9 ls hl KK
      by_cases z32 : w9 = 32
      · refine lv_tableIn (tgt := 1366) (off := 1333) hx hb dL_law_33 (by rw [z32]; decide) (by rw [z32]; decide) (by rw [z32]; decide +kernel) (by decide) ?_
        exact lc_asked hL C0 hSt k i1 hik hi7 qx H locs hv9 ls hl KK
      by_cases z33 : w9 = 33
      · refine lv_tableIn (tgt := 1379) (off := 1346) hx hb dL_law_33 (by rw [z33]; decide) (by rw [z33]; decide) (by rw [z33]; decide +kernel) (by decide) ?_
        exact lc_count hL C0 hSt k i1 hik hi7 qx H locs hv9 ls hl KK
      by_cases z34 : w9 = 34
      · refine lv_tableIn (tgt := 1402) (off := 1369) hx hb dL_law_33 (by rw [z34]; decide) (by rw [z34]; decide) (by rw [z34]; decide +kernel) (by decide) ?_
        exact lc_finding hL C0 hSt k i1 hik hi7 qx H locs hv9 ls hl KK
      by_cases z35 : w9 = 35
      · refine lv_tableIn (tgt := 1415) (off := 1382) hx hb dL_law_33 (by rw [z35]; decide) (by rw [z35]; decide) (by rw [z35]; decide +kernel) (by decide) ?_
        exact lc_findings hL C0 hSt k i1 hik hi7 qx H locs hv9 ls hl KK
      by_cases z36 : w9 = 36
      · refine lv_tableIn (tgt := 1438) (off := 1405) hx hb dL_law_33 (by rw [z36]; decide) (by rw [z36]; decide) (by rw [z36]; decide +kernel) (by decide) ?_
        exact lc_digest hL C0 hSt k i1 hik hi7 qx H locs hv9 ls hl KK
      refine lv_tableOut (tgt := 1452) hx hb dL_law_33 (ts_out37 z0 z1 z2 z3 z4 z5 z6 z7 z8 z9 z10 z11 z12 z13 z14 z15 z16 z17 z18 z19 z20 z21 z22 z23 z24 z25 z26 z27 z28 z29 z30 z31 z32 z33 z34 z35 z36) (by decide) ?_
      refine W.widen (k := 100 + 2 * (k + 1)) (n := 3000 + 12 * (k + 1)) (by omega) (by omega) ?_
      exact KK H locs ls hv9 hl
