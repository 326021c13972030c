set_option maxHeartbeats 4000000 in
set_option maxRecDepth 100000 in
theorem lc_known {p : Program} {l : Launch} {e : Env} {s : State} {m : MethodId} {below : List Frame} {meth : Method} {c : Code} {dC : Nat → ClassId} {dI : Nat → Nat → Nat} {cy : Nat → ClassId} {cI cB cZ : ClassId} {h : Nat} {a : Nat → Nat} {b L : Nat} {xs : Nat → Int32} (hL : L ≤ 3584) (C0 : lw_At p s m meth c b L xs) (hSt : lS s dC dI cy cI cB cZ) (k i1 : Nat) (hik : i1 = 7 * k) (hi7 : i1 + 7 ≤ L) (qx : Nat) (H : Heap) (locs : List Loc) (hv9 : lI s dC dI cy cI cB cZ h a qx H locs) (ls : Array Slot) (hl : lv_has ls 4 [(0, .ref b), (1, .ref qx), (2, .ref h), (3, .int (nI i1))])
    (KK : ∀ (H1 : Heap) (locs1 : List Loc) (ls1 : Array Slot), lI s dC dI cy cI cB cZ h a qx H1 locs1 → lv_has ls1 4 [(0, .ref b), (1, .ref qx), (2, .ref h), (3, .int (nI i1))] → W p l e room_1 s m #[Value.ref b] below meth c H1 locs1 (100 + 2 * (k + 1)) (3000 + 12 * (k + 1)) (lw_Z below #[Value.ref b] s) (F0 m 1452 ls1 [])) :
    W p l e room_1 s m #[Value.ref b] below meth c H locs (100 + 2 * k) (3000 + 12 * k) (lw_Z below #[Value.ref b] s) (F0 m 490 ls []) := by
  obtain ⟨hx, hb, hr, hml, hown, hts0, hX, hbl, hlocks, hgv⟩ := C0
  obtain ⟨hK, hN, hK3, hO4⟩ := hSt
  obtain ⟨F, M, Y, rl, ad, hv, hq, hrl, hPX, hDX, hPR, hDR, hS, hAR⟩ := hv9
  subst hq
  have hts : ∀ w ∈ wsL_law, w.before #[Value.ref b] s = true := fun w hw => hts0 w (wsL_law_in w hw)
  replace hown : s.vm.findClass RL = some m.cls := hown
  have hbA : ¬ A0 s b := Nat.not_le.mpr hbl
  refine lv_aload_n hx hb dL_law_490 rfl (lv_at hl 1 rfl) ?_
  refine lv_aload_n hx hb dL_law_491 rfl (lv_at hl 0 rfl) ?_
  refine lv_iload_n hx hb dL_law_492 rfl (lv_at hl 3 rfl) ?_
  refine lv_iconst (v := 1) hx hb dL_law_493 (by decide) ?_
  refine lv_iadd hx hb dL_law_494 ?_
  refine va_sld hx hb hX hbl hbA hS (nx_in (show (nI i1) + 1 = nI ((i1) + 1) from by show (nI i1) + nI 1 = _; simp only [nI_add, pk_mul]) (by omega) (by omega)) dL_law_495 ?_
  rw [nx_cl (show (nI i1) + 1 = nI ((i1) + 1) from by show (nI i1) + nI 1 = _; simp only [nI_add, pk_mul]) (by omega)]
  refine lv_aload_n hx hb dL_law_496 rfl (lv_at hl 0 rfl) ?_
  refine lv_iload_n hx hb dL_law_497 rfl (lv_at hl 3 rfl) ?_
  refine lv_iconst (v := 2) hx hb dL_law_498 (by decide) ?_
  refine lv_iadd hx hb dL_law_499 ?_
  refine va_sld hx hb hX hbl hbA hS (nx_in (show (nI i1) + 2 = nI ((i1) + 2) from by show (nI i1) + nI 2 = _; simp only [nI_add, pk_mul]) (by omega) (by omega)) dL_law_500 ?_
  rw [nx_cl (show (nI i1) + 2 = nI ((i1) + 2) from by show (nI i1) + nI 2 = _; simp only [nI_add, pk_mul]) (by omega)]
  refine lv_aload_n hx hb dL_law_501 rfl (lv_at hl 0 rfl) ?_
  refine lv_iload_n hx hb dL_law_502 rfl (lv_at hl 3 rfl) ?_
  refine lv_iconst (v := 3) hx hb dL_law_503 (by decide) ?_
  refine lv_iadd hx hb dL_law_504 ?_
  refine va_sld hx hb hX hbl hbA hS (nx_in (show (nI i1) + 3 = nI ((i1) + 3) from by show (nI i1) + nI 3 = _; simp only [nI_add, pk_mul]) (by omega) (by omega)) dL_law_505 ?_
  rw [nx_cl (show (nI i1) + 3 = nI ((i1) + 3) from by show (nI i1) + nI 3 = _; simp only [nI_add, pk_mul]) (by omega)]
  refine vp_callSi (W.runV (As := [.int (xs ((i1) + 1)), .int (xs ((i1) + 2)), .int (xs ((i1) + 3))]) (rest := []) ⟨hx, hb, hml, hown, hts⟩ (c_X10_known l dC dI rl ad cy F M Y (xs ((i1) + 1)) (xs ((i1) + 2)) (xs ((i1) + 3)) hrl hv.1 hv.2) (cwV 3 hts gL_law_X10_known rfl rfl rfl (by decide +kernel) ⟨Nat.le_of_ble_eq_true rfl, Nat.le_of_ble_eq_true rfl⟩) ⟨pc_blind, rg_recv hK hPX ((hrl _).mpr (vd_9 (by decide))) (ci := 9) rfl en_9, fun U hU hW => ⟨rfl, by rw [hU]; exact hPX, va_K.moved hW.alike hK, nst_w hW hN⟩⟩ rfl rfl hl.1 rfl (lv_room (Nat.le_of_ble_eq_true rfl)) dL_law_506 ⟨show 100 + 2 * k + 0 ≤ 600000 by omega, show 3000 + 12 * k + 0 ≤ 7302250 by omega⟩) (fun r hr9 => ?_)
  subst hr9
  refine lv_aload_n hx hb dL_law_509 rfl (lv_at hl 2 rfl) ?_
  refine lv_aload_n hx hb dL_law_510 rfl (lv_at hl 0 rfl) ?_
  refine lv_iload_n hx hb dL_law_511 rfl (lv_at hl 3 rfl) ?_
  refine lv_iconst (v := 1) hx hb dL_law_512 (by decide) ?_
  refine lv_iadd hx hb dL_law_513 ?_
  refine va_sld hx hb hX hbl hbA hS (nx_in (show (nI i1) + 1 = nI ((i1) + 1) from by show (nI i1) + nI 1 = _; simp only [nI_add, pk_mul]) (by omega) (by omega)) dL_law_514 ?_
  rw [nx_cl (show (nI i1) + 1 = nI ((i1) + 1) from by show (nI i1) + nI 1 = _; simp only [nI_add, pk_mul]) (by omega)]
  refine lv_aload_n hx hb dL_law_515 rfl (lv_at hl 0 rfl) ?_
  refine lv_iload_n hx hb dL_law_516 rfl (lv_at hl 3 rfl) ?_
  refine lv_iconst (v := 2) hx hb dL_law_517 (by decide) ?_
  refine lv_iadd hx hb dL_law_518 ?_
  refine va_sld hx hb hX hbl hbA hS (nx_in (show (nI i1) + 2 = nI ((i1) + 2) from by show (nI i1) + nI 2 = _; simp only [nI_add, pk_mul]) (by omega) (by omega)) dL_law_519 ?_
  rw [nx_cl (show (nI i1) + 2 = nI ((i1) + 2) from by show (nI i1) + nI 2 = _; simp only [nI_add, pk_mul]) (by omega)]
  refine lv_aload_n hx hb dL_law_520 rfl (lv_at hl 0 rfl) ?_
  refine lv_iload_n hx hb dL_law_521 rfl (lv_at hl 3 rfl) ?_
  refine lv_iconst (v := 3) hx hb dL_law_522 (by decide) ?_
  refine lv_iadd hx hb dL_law_523 ?_
  refine va_sld hx hb hX hbl hbA hS (nx_in (show (nI i1) + 3 = nI ((i1) + 3) from by show (nI i1) + nI 3 = _; simp only [nI_add, pk_mul]) (by omega) (by omega)) dL_law_524 ?_
  rw [nx_cl (show (nI i1) + 3 = nI ((i1) + 3) from by show (nI i1) + nI 3 = _; simp only [nI_add, pk_mul]) (by omega)]
  refine vp_callSi (W.runV (As := [.int (xs ((i1) + 1)), .int (xs ((i1) + 2)), .int (xs ((i1) + 3))]) (rest := [.int (s_X11_known F M (xs ((i1) + 1)) (xs ((i1) + 2)) (xs ((i1) + 3)))]) ⟨hx, hb, hml, hown, hts⟩ (c_X11_known l dC dI h a cI cB cZ F M (xs ((i1) + 1)) (xs ((i1) + 2)) (xs ((i1) + 3)) hv.1) (cwV 3 hts gL_law_X11_known rfl rfl rfl (by decide +kernel) ⟨Nat.le_of_ble_eq_true rfl, Nat.le_of_ble_eq_true rfl⟩) ⟨pm_blind, va_recv hK3 hPR (ci := 10) (q0 := 0) rfl rfl, fun U hU hW => ⟨rfl, by rw [hU]; exact hPR, va_K.moved hW.alike hK3⟩⟩ rfl rfl hl.1 rfl (lv_room (Nat.le_of_ble_eq_true rfl)) dL_law_525 ⟨show 100 + 2 * k + 0 ≤ 600000 by omega, show 3000 + 12 * k + 0 ≤ 7302250 by omega⟩) (fun r hr9 => ?_)
  subst hr9
  refine lv_icmp_eq (tgt := 1452) hx hb dL_law_528 (by decide) (fun _ => ?_) (fun c => absurd rfl c)
  refine W.widen (k := 100 + 2 * (k + 1)) (n := 3000 + 12 * (k + 1)) (by omega) (by omega) ?_
  exact KK H locs ls ⟨F, M, Y, rl, ad, hv, rfl, hrl, hPX, hDX, hPR, hDR, hS, hAR⟩ (lv_sub hl [0, 1, 2, 3] rfl)

set_option maxHeartbeats 4000000 in
set_option maxRecDepth 100000 in
theorem lc_statute {p : Program} {l : Launch} {e : Env} {s : State} {m : MethodId} {below : List Frame} {meth : Method} {c : Code} {dC : Nat → ClassId} {dI : Nat → Nat → Nat} {cy : Nat → ClassId} {cI cB cZ : ClassId} {h : Nat} {a : Nat → Nat} {b L : Nat} {xs : Nat → Int32} (hL : L ≤ 3584) (C0 : lw_At p s m meth c b L xs) (hSt : lS s dC dI cy cI cB cZ) (k i1 : Nat) (hik : i1 = 7 * k) (hi7 : i1 + 7 ≤ L) (qx : Nat) (H : Heap) (locs : List Loc) (hv9 : lI s dC dI cy cI cB cZ h a qx H locs) (ls : Array Slot) (hl : lv_has ls 4 [(0, .ref b), (1, .ref qx), (2, .ref h), (3, .int (nI i1))])
    (KK : ∀ (H1 : Heap) (locs1 : List Loc) (ls1 : Array Slot), lI s dC dI cy cI cB cZ h a qx H1 locs1 → lv_has ls1 4 [(0, .ref b), (1, .ref qx), (2, .ref h), (3, .int (nI i1))] → W p l e room_1 s m #[Value.ref b] below meth c H1 locs1 (100 + 2 * (k + 1)) (3000 + 12 * (k + 1)) (lw_Z below #[Value.ref b] s) (F0 m 1452 ls1 [])) :
    W p l e room_1 s m #[Value.ref b] below meth c H locs (100 + 2 * k) (3000 + 12 * k) (lw_Z below #[Value.ref b] s) (F0 m 533 ls []) := by
  obtain ⟨hx, hb, hr, hml, hown, hts0, hX, hbl, hlocks, hgv⟩ := C0
  obtain ⟨hK, hN, hK3, hO4⟩ := hSt
  obtain ⟨F, M, Y, rl, ad, hv, hq, hrl, hPX, hDX, hPR, hDR, hS, hAR⟩ := hv9
  subst hq
  have hts : ∀ w ∈ wsL_law, w.before #[Value.ref b] s = true := fun w hw => hts0 w (wsL_law_in w hw)
  replace hown : s.vm.findClass RL = some m.cls := hown
  have hbA : ¬ A0 s b := Nat.not_le.mpr hbl
  have hAX : ∀ q, H.size ≤ q → AX s h a q := fun q hq => ⟨Nat.le_trans hS.1 hq, fun z => absurd (ar_lt hPR z) (Nat.not_lt.mpr hq)⟩
  refine lv_aload_n hx hb dL_law_533 rfl (lv_at hl 1 rfl) ?_
  refine lv_aload_n hx hb dL_law_534 rfl (lv_at hl 0 rfl) ?_
  refine lv_iload_n hx hb dL_law_535 rfl (lv_at hl 3 rfl) ?_
  refine lv_iconst (v := 1) hx hb dL_law_536 (by decide) ?_
  refine lv_iadd hx hb dL_law_537 ?_
  refine va_sld hx hb hX hbl hbA hS (nx_in (show (nI i1) + 1 = nI ((i1) + 1) from by show (nI i1) + nI 1 = _; simp only [nI_add, pk_mul]) (by omega) (by omega)) dL_law_538 ?_
  rw [nx_cl (show (nI i1) + 1 = nI ((i1) + 1) from by show (nI i1) + nI 1 = _; simp only [nI_add, pk_mul]) (by omega)]
  refine lv_aload_n hx hb dL_law_539 rfl (lv_at hl 0 rfl) ?_
  refine lv_iload_n hx hb dL_law_540 rfl (lv_at hl 3 rfl) ?_
  refine lv_iconst (v := 2) hx hb dL_law_541 (by decide) ?_
  refine lv_iadd hx hb dL_law_542 ?_
  refine va_sld hx hb hX hbl hbA hS (nx_in (show (nI i1) + 2 = nI ((i1) + 2) from by show (nI i1) + nI 2 = _; simp only [nI_add, pk_mul]) (by omega) (by omega)) dL_law_543 ?_
  rw [nx_cl (show (nI i1) + 2 = nI ((i1) + 2) from by show (nI i1) + nI 2 = _; simp only [nI_add, pk_mul]) (by omega)]
  refine lv_aload_n hx hb dL_law_544 rfl (lv_at hl 0 rfl) ?_
  refine lv_iload_n hx hb dL_law_545 rfl (lv_at hl 3 rfl) ?_
  refine lv_iconst (v := 3) hx hb dL_law_546 (by decide) ?_
  refine lv_iadd hx hb dL_law_547 ?_
  refine va_sld hx hb hX hbl hbA hS (nx_in (show (nI i1) + 3 = nI ((i1) + 3) from by show (nI i1) + nI 3 = _; simp only [nI_add, pk_mul]) (by omega) (by omega)) dL_law_548 ?_
  rw [nx_cl (show (nI i1) + 3 = nI ((i1) + 3) from by show (nI i1) + nI 3 = _; simp only [nI_add, pk_mul]) (by omega)]
  refine lv_if_eq (tgt := 556) hx hb dL_law_549 (by decide) (fun c1 => ?_) (fun c1 => ?_)
  · refine lv_iconst (v := 0) hx hb dL_law_556 (by decide) ?_
    refine va_calli (va_runV (As := [.int (xs ((i1) + 1)), .int (xs ((i1) + 2)), .int 0]) (rest := []) ⟨hx, hb, hml, hown, hts⟩ (c_X10_statute l dC dI rl ad cy F M Y (xs ((i1) + 1)) (xs ((i1) + 2)) 0 hrl hv.1 hv.2 (AX s h a) hDX (Or.inl rfl)) (cwV 3 hts gL_law_X10_statute rfl rfl rfl (by decide +kernel) ⟨Nat.le_of_ble_eq_true rfl, Nat.le_of_ble_eq_true rfl⟩) ⟨pa_blind, rg_recv hK hPX ((hrl _).mpr (vd_9 (by decide))) (ci := 9) rfl en_9, fun U hU hW => ⟨rfl, by rw [hU]; exact hAX, by rw [hU]; exact hPX, va_K.moved hW.alike hK, nst_w hW hN⟩⟩ rfl rfl hl.1 rfl (lv_room (Nat.le_of_ble_eq_true rfl)) dL_law_557 ⟨show 100 + 2 * k + 1 ≤ 600000 by omega, show 3000 + 12 * k + 3 ≤ 7302250 by omega⟩) hS (fun q _ h => h.1) (fun q h => h.1) (fun r u t H1 locs ht hvm hw hB hz1 hk1 hS => ?_)
    subst hw
    obtain ⟨⟨⟨hP1, -, -⟩, hD1⟩, hrl1, hq9⟩ := hB
    rw [ht] at hP1
    replace hPR := wk hPR (fun k q hk => hk1 q.1 (hPR k q hk).lt (fun z => z.2 (hDR.2 k q hk)))
    refine lv_aload_n hx hb dL_law_560 rfl (lv_at hl 2 rfl) ?_
    refine lv_aload_n hx hb dL_law_561 rfl (lv_at hl 0 rfl) ?_
    refine lv_iload_n hx hb dL_law_562 rfl (lv_at hl 3 rfl) ?_
    refine lv_iconst (v := 1) hx hb dL_law_563 (by decide) ?_
    refine lv_iadd hx hb dL_law_564 ?_
    refine va_sld hx hb hX hbl hbA hS (nx_in (show (nI i1) + 1 = nI ((i1) + 1) from by show (nI i1) + nI 1 = _; simp only [nI_add, pk_mul]) (by omega) (by omega)) dL_law_565 ?_
    rw [nx_cl (show (nI i1) + 1 = nI ((i1) + 1) from by show (nI i1) + nI 1 = _; simp only [nI_add, pk_mul]) (by omega)]
    refine lv_aload_n hx hb dL_law_566 rfl (lv_at hl 0 rfl) ?_
    refine lv_iload_n hx hb dL_law_567 rfl (lv_at hl 3 rfl) ?_
    refine lv_iconst (v := 2) hx hb dL_law_568 (by decide) ?_
    refine lv_iadd hx hb dL_law_569 ?_
    refine va_sld hx hb hX hbl hbA hS (nx_in (show (nI i1) + 2 = nI ((i1) + 2) from by show (nI i1) + nI 2 = _; simp only [nI_add, pk_mul]) (by omega) (by omega)) dL_law_570 ?_
    rw [nx_cl (show (nI i1) + 2 = nI ((i1) + 2) from by show (nI i1) + nI 2 = _; simp only [nI_add, pk_mul]) (by omega)]
    refine lv_aload_n hx hb dL_law_571 rfl (lv_at hl 0 rfl) ?_
    refine lv_iload_n hx hb dL_law_572 rfl (lv_at hl 3 rfl) ?_
    refine lv_iconst (v := 3) hx hb dL_law_573 (by decide) ?_
    refine lv_iadd hx hb dL_law_574 ?_
    refine va_sld hx hb hX hbl hbA hS (nx_in (show (nI i1) + 3 = nI ((i1) + 3) from by show (nI i1) + nI 3 = _; simp only [nI_add, pk_mul]) (by omega) (by omega)) dL_law_575 ?_
    rw [nx_cl (show (nI i1) + 3 = nI ((i1) + 3) from by show (nI i1) + nI 3 = _; simp only [nI_add, pk_mul]) (by omega)]
    refine lv_if_eq (tgt := 583) hx hb dL_law_576 (by decide) (fun _ => ?_) (fun c => absurd c1 c)
    refine lv_iconst (v := 0) hx hb dL_law_583 (by decide) ?_
    refine va_calli (va_runV (As := [.int (xs ((i1) + 1)), .int (xs ((i1) + 2)), .int 0]) (rest := [.int ((s_X11_statute F M (xs ((i1) + 1)) (xs ((i1) + 2)) 0).1)]) ⟨hx, hb, hml, hown, hts⟩ (c_X11_statute l dC dI h a cI cB cZ F M (xs ((i1) + 1)) (xs ((i1) + 2)) 0 (AR h a) hDR hv.1) (cwV 3 hts gL_law_X11_statute rfl rfl rfl (by decide +kernel) ⟨Nat.le_of_ble_eq_true rfl, Nat.le_of_ble_eq_true rfl⟩) ⟨pm_blind, va_recv hK3 hPR (ci := 10) (q0 := 0) rfl rfl, fun U hU hW => ⟨rfl, by rw [hU]; exact hPR, va_K.moved hW.alike hK3⟩⟩ rfl rfl hl.1 rfl (lv_room (Nat.le_of_ble_eq_true rfl)) dL_law_584 ⟨show 100 + 2 * k + 1 + 0 ≤ 600000 by omega, show 3000 + 12 * k + 3 + 0 ≤ 7302250 by omega⟩) hS (fun q _ h => hAR q h) (fun q h => hAR q h) (fun r u t H2 locs ht hvm hw hB hz2 hk2 hS => ?_)
    obtain ⟨hr9, hu9⟩ : r = (s_X11_statute F M (xs ((i1) + 1)) (xs ((i1) + 2)) 0).1 ∧ u = (s_X11_statute F M (xs ((i1) + 1)) (xs ((i1) + 2)) 0).2 := ⟨congrArg Prod.fst hw, congrArg Prod.snd hw⟩
    subst hr9; subst hu9
    obtain ⟨⟨hP2, -⟩, hD2⟩ := hB
    rw [ht] at hP2
    have hPX := wk hP1 (fun k q hk => hk2 q.1 (hP1 k q hk).lt (hD1.2 k q hk).2)
    have hDX := hD1; have hPR := hP2
    refine lv_icmp_eq (tgt := 1452) hx hb dL_law_587 (by decide) (fun _ => ?_) (fun c => absurd rfl c)
    refine W.widen (k := 100 + 2 * (k + 1)) (n := 3000 + 12 * (k + 1)) (by omega) (by omega) ?_
    exact KK _ _ _ ⟨(s_X11_statute F M (xs ((i1) + 1)) (xs ((i1) + 2)) 0).2.1, (s_X11_statute F M (xs ((i1) + 1)) (xs ((i1) + 2)) 0).2.2, _, _, _, k_statute (xs ((i1) + 1)) (xs ((i1) + 2)) 0 hv.1 hv.2, hq9, hrl1, hPX, hDX, hPR, dR hD2, hS, hAR⟩ (lv_sub hl [0, 1, 2, 3] rfl)
  · refine lv_iconst (v := 1) hx hb dL_law_552 (by decide) ?_
    refine lv_goto (tgt := 557) hx hb dL_law_553 (by decide) ?_
    refine va_calli (va_runV (As := [.int (xs ((i1) + 1)), .int (xs ((i1) + 2)), .int 1]) (rest := []) ⟨hx, hb, hml, hown, hts⟩ (c_X10_statute l dC dI rl ad cy F M Y (xs ((i1) + 1)) (xs ((i1) + 2)) 1 hrl hv.1 hv.2 (AX s h a) hDX (Or.inr rfl)) (cwV 3 hts gL_law_X10_statute rfl rfl rfl (by decide +kernel) ⟨Nat.le_of_ble_eq_true rfl, Nat.le_of_ble_eq_true rfl⟩) ⟨pa_blind, rg_recv hK hPX ((hrl _).mpr (vd_9 (by decide))) (ci := 9) rfl en_9, fun U hU hW => ⟨rfl, by rw [hU]; exact hAX, by rw [hU]; exact hPX, va_K.moved hW.alike hK, nst_w hW hN⟩⟩ rfl rfl hl.1 rfl (lv_room (Nat.le_of_ble_eq_true rfl)) dL_law_557 ⟨show 100 + 2 * k + 1 ≤ 600000 by omega, show 3000 + 12 * k + 3 ≤ 7302250 by omega⟩) hS (fun q _ h => h.1) (fun q h => h.1) (fun r u t H1 locs ht hvm hw hB hz1 hk1 hS => ?_)
    subst hw
    obtain ⟨⟨⟨hP1, -, -⟩, hD1⟩, hrl1, hq9⟩ := hB
    rw [ht] at hP1
    replace hPR := wk hPR (fun k q hk => hk1 q.1 (hPR k q hk).lt (fun z => z.2 (hDR.2 k q hk)))
    refine lv_aload_n hx hb dL_law_560 rfl (lv_at hl 2 rfl) ?_
    refine lv_aload_n hx hb dL_law_561 rfl (lv_at hl 0 rfl) ?_
    refine lv_iload_n hx hb dL_law_562 rfl (lv_at hl 3 rfl) ?_
    refine lv_iconst (v := 1) hx hb dL_law_563 (by decide) ?_
    refine lv_iadd hx hb dL_law_564 ?_
    refine va_sld hx hb hX hbl hbA hS (nx_in (show (nI i1) + 1 = nI ((i1) + 1) from by show (nI i1) + nI 1 = _; simp only [nI_add, pk_mul]) (by omega) (by omega)) dL_law_565 ?_
    rw [nx_cl (show (nI i1) + 1 = nI ((i1) + 1) from by show (nI i1) + nI 1 = _; simp only [nI_add, pk_mul]) (by omega)]
    refine lv_aload_n hx hb dL_law_566 rfl (lv_at hl 0 rfl) ?_
    refine lv_iload_n hx hb dL_law_567 rfl (lv_at hl 3 rfl) ?_
    refine lv_iconst (v := 2) hx hb dL_law_568 (by decide) ?_
    refine lv_iadd hx hb dL_law_569 ?_
    refine va_sld hx hb hX hbl hbA hS (nx_in (show (nI i1) + 2 = nI ((i1) + 2) from by show (nI i1) + nI 2 = _; simp only [nI_add, pk_mul]) (by omega) (by omega)) dL_law_570 ?_
    rw [nx_cl (show (nI i1) + 2 = nI ((i1) + 2) from by show (nI i1) + nI 2 = _; simp only [nI_add, pk_mul]) (by omega)]
    refine lv_aload_n hx hb dL_law_571 rfl (lv_at hl 0 rfl) ?_
    refine lv_iload_n hx hb dL_law_572 rfl (lv_at hl 3 rfl) ?_
    refine lv_iconst (v := 3) hx hb dL_law_573 (by decide) ?_
    refine lv_iadd hx hb dL_law_574 ?_
    refine va_sld hx hb hX hbl hbA hS (nx_in (show (nI i1) + 3 = nI ((i1) + 3) from by show (nI i1) + nI 3 = _; simp only [nI_add, pk_mul]) (by omega) (by omega)) dL_law_575 ?_
    rw [nx_cl (show (nI i1) + 3 = nI ((i1) + 3) from by show (nI i1) + nI 3 = _; simp only [nI_add, pk_mul]) (by omega)]
    refine lv_if_eq (tgt := 583) hx hb dL_law_576 (by decide) (fun c => absurd c c1) (fun _ => ?_)
    refine lv_iconst (v := 1) hx hb dL_law_579 (by decide) ?_
    refine lv_goto (tgt := 584) hx hb dL_law_580 (by decide) ?_
    refine va_calli (va_runV (As := [.int (xs ((i1) + 1)), .int (xs ((i1) + 2)), .int 1]) (rest := [.int ((s_X11_statute F M (xs ((i1) + 1)) (xs ((i1) + 2)) 1).1)]) ⟨hx, hb, hml, hown, hts⟩ (c_X11_statute l dC dI h a cI cB cZ F M (xs ((i1) + 1)) (xs ((i1) + 2)) 1 (AR h a) hDR hv.1) (cwV 3 hts gL_law_X11_statute rfl rfl rfl (by decide +kernel) ⟨Nat.le_of_ble_eq_true rfl, Nat.le_of_ble_eq_true rfl⟩) ⟨pm_blind, va_recv hK3 hPR (ci := 10) (q0 := 0) rfl rfl, fun U hU hW => ⟨rfl, by rw [hU]; exact hPR, va_K.moved hW.alike hK3⟩⟩ rfl rfl hl.1 rfl (lv_room (Nat.le_of_ble_eq_true rfl)) dL_law_584 ⟨show 100 + 2 * k + 1 + 0 ≤ 600000 by omega, show 3000 + 12 * k + 3 + 0 ≤ 7302250 by omega⟩) hS (fun q _ h => hAR q h) (fun q h => hAR q h) (fun r u t H2 locs ht hvm hw hB hz2 hk2 hS => ?_)
    obtain ⟨hr9, hu9⟩ : r = (s_X11_statute F M (xs ((i1) + 1)) (xs ((i1) + 2)) 1).1 ∧ u = (s_X11_statute F M (xs ((i1) + 1)) (xs ((i1) + 2)) 1).2 := ⟨congrArg Prod.fst hw, congrArg Prod.snd hw⟩
    subst hr9; subst hu9
    obtain ⟨⟨hP2, -⟩, hD2⟩ := hB
    rw [ht] at hP2
    have hPX := wk hP1 (fun k q hk => hk2 q.1 (hP1 k q hk).lt (hD1.2 k q hk).2)
    have hDX := hD1; have hPR := hP2
    refine lv_icmp_eq (tgt := 1452) hx hb dL_law_587 (by decide) (fun _ => ?_) (fun c => absurd rfl c)
    refine W.widen (k := 100 + 2 * (k + 1)) (n := 3000 + 12 * (k + 1)) (by omega) (by omega) ?_
    exact KK _ _ _ ⟨(s_X11_statute F M (xs ((i1) + 1)) (xs ((i1) + 2)) 1).2.1, (s_X11_statute F M (xs ((i1) + 1)) (xs ((i1) + 2)) 1).2.2, _, _, _, k_statute (xs ((i1) + 1)) (xs ((i1) + 2)) 1 hv.1 hv.2, hq9, hrl1, hPX, hDX, hPR, dR hD2, hS, hAR⟩ (lv_sub hl [0, 1, 2, 3] rfl)

set_option maxHeartbeats 4000000 in
set_option maxRecDepth 100000 in
theorem lc_force {p : Program} {l : Launch} {e : Env} {s : State} {m : MethodId} {below : List Frame} {meth : Method} {c : Code} {dC : Nat → ClassId} {dI : Nat → Nat → Nat} {cy : Nat → ClassId} {cI cB cZ : ClassId} {h : Nat} {a : Nat → Nat} {b L : Nat} {xs : Nat → Int32} (hL : L ≤ 3584) (C0 : lw_At p s m meth c b L xs) (hSt : lS s dC dI cy cI cB cZ) (k i1 : Nat) (hik : i1 = 7 * k) (hi7 : i1 + 7 ≤ L) (qx : Nat) (H : Heap) (locs : List Loc) (hv9 : lI s dC dI cy cI cB cZ h a qx H locs) (ls : Array Slot) (hl : lv_has ls 4 [(0, .ref b), (1, .ref qx), (2, .ref h), (3, .int (nI i1))])
    (KK : ∀ (H1 : Heap) (locs1 : List Loc) (ls1 : Array Slot), lI s dC dI cy cI cB cZ h a qx H1 locs1 → lv_has ls1 4 [(0, .ref b), (1, .ref qx), (2, .ref h), (3, .int (nI i1))] → W p l e room_1 s m #[Value.ref b] below meth c H1 locs1 (100 + 2 * (k + 1)) (3000 + 12 * (k + 1)) (lw_Z below #[Value.ref b] s) (F0 m 1452 ls1 [])) :
    W p l e room_1 s m #[Value.ref b] below meth c H locs (100 + 2 * k) (3000 + 12 * k) (lw_Z below #[Value.ref b] s) (F0 m 592 ls []) := by
  obtain ⟨hx, hb, hr, hml, hown, hts0, hX, hbl, hlocks, hgv⟩ := C0
  obtain ⟨hK, hN, hK3, hO4⟩ := hSt
  obtain ⟨F, M, Y, rl, ad, hv, hq, hrl, hPX, hDX, hPR, hDR, hS, hAR⟩ := hv9
  subst hq
  have hts : ∀ w ∈ wsL_law, w.before #[Value.ref b] s = true := fun w hw => hts0 w (wsL_law_in w hw)
  replace hown : s.vm.findClass RL = some m.cls := hown
  have hbA : ¬ A0 s b := Nat.not_le.mpr hbl
  refine lv_aload_n hx hb dL_law_592 rfl (lv_at hl 1 rfl) ?_
  refine lv_aload_n hx hb dL_law_593 rfl (lv_at hl 0 rfl) ?_
  refine lv_iload_n hx hb dL_law_594 rfl (lv_at hl 3 rfl) ?_
  refine lv_iconst (v := 1) hx hb dL_law_595 (by decide) ?_
  refine lv_iadd hx hb dL_law_596 ?_
  refine va_sld hx hb hX hbl hbA hS (nx_in (show (nI i1) + 1 = nI ((i1) + 1) from by show (nI i1) + nI 1 = _; simp only [nI_add, pk_mul]) (by omega) (by omega)) dL_law_597 ?_
  rw [nx_cl (show (nI i1) + 1 = nI ((i1) + 1) from by show (nI i1) + nI 1 = _; simp only [nI_add, pk_mul]) (by omega)]
  refine vp_callSi (W.runV (As := [.int (xs ((i1) + 1))]) (rest := []) ⟨hx, hb, hml, hown, hts⟩ (c_X10_force l dC dI rl ad cy F M Y (xs ((i1) + 1)) hrl hv.1 hv.2) (cwV 1 hts gL_law_X10_force rfl rfl rfl (by decide +kernel) ⟨Nat.le_of_ble_eq_true rfl, Nat.le_of_ble_eq_true rfl⟩) ⟨pc_blind, rg_recv hK hPX ((hrl _).mpr (vd_9 (by decide))) (ci := 9) rfl en_9, fun U hU hW => ⟨rfl, by rw [hU]; exact hPX, va_K.moved hW.alike hK, nst_w hW hN⟩⟩ rfl rfl hl.1 rfl (lv_room (Nat.le_of_ble_eq_true rfl)) dL_law_598 ⟨show 100 + 2 * k + 0 ≤ 600000 by omega, show 3000 + 12 * k + 0 ≤ 7302250 by omega⟩) (fun r hr9 => ?_)
  subst hr9
  refine lv_aload_n hx hb dL_law_601 rfl (lv_at hl 2 rfl) ?_
  refine lv_aload_n hx hb dL_law_602 rfl (lv_at hl 0 rfl) ?_
  refine lv_iload_n hx hb dL_law_603 rfl (lv_at hl 3 rfl) ?_
  refine lv_iconst (v := 1) hx hb dL_law_604 (by decide) ?_
  refine lv_iadd hx hb dL_law_605 ?_
  refine va_sld hx hb hX hbl hbA hS (nx_in (show (nI i1) + 1 = nI ((i1) + 1) from by show (nI i1) + nI 1 = _; simp only [nI_add, pk_mul]) (by omega) (by omega)) dL_law_606 ?_
  rw [nx_cl (show (nI i1) + 1 = nI ((i1) + 1) from by show (nI i1) + nI 1 = _; simp only [nI_add, pk_mul]) (by omega)]
  refine vp_callSi (W.runV (As := [.int (xs ((i1) + 1))]) (rest := [.int (s_X11_force F M (xs ((i1) + 1)))]) ⟨hx, hb, hml, hown, hts⟩ (c_X11_force l dC dI h a cI cB cZ F M (xs ((i1) + 1)) hv.1) (cwV 1 hts gL_law_X11_force rfl rfl rfl (by decide +kernel) ⟨Nat.le_of_ble_eq_true rfl, Nat.le_of_ble_eq_true rfl⟩) ⟨pm_blind, va_recv hK3 hPR (ci := 10) (q0 := 0) rfl rfl, fun U hU hW => ⟨rfl, by rw [hU]; exact hPR, va_K.moved hW.alike hK3⟩⟩ rfl rfl hl.1 rfl (lv_room (Nat.le_of_ble_eq_true rfl)) dL_law_607 ⟨show 100 + 2 * k + 0 ≤ 600000 by omega, show 3000 + 12 * k + 0 ≤ 7302250 by omega⟩) (fun r hr9 => ?_)
  subst hr9
  refine lv_icmp_eq (tgt := 1452) hx hb dL_law_610 (by decide) (fun _ => ?_) (fun c => absurd rfl c)
  refine W.widen (k := 100 + 2 * (k + 1)) (n := 3000 + 12 * (k + 1)) (by omega) (by omega) ?_
  exact KK H locs ls ⟨F, M, Y, rl, ad, hv, rfl, hrl, hPX, hDX, hPR, hDR, hS, hAR⟩ (lv_sub hl [0, 1, 2, 3] rfl)

set_option maxHeartbeats 4000000 in
set_option maxRecDepth 100000 in
theorem lc_when {p : Program} {l : Launch} {e : Env} {s : State} {m : MethodId} {below : List Frame} {meth : Method} {c : Code} {dC : Nat → ClassId} {dI : Nat → Nat → Nat} {cy : Nat → ClassId} {cI cB cZ : ClassId} {h : Nat} {a : Nat → Nat} {b L : Nat} {xs : Nat → Int32} (hL : L ≤ 3584) (C0 : lw_At p s m meth c b L xs) (hSt : lS s dC dI cy cI cB cZ) (k i1 : Nat) (hik : i1 = 7 * k) (hi7 : i1 + 7 ≤ L) (qx : Nat) (H : Heap) (locs : List Loc) (hv9 : lI s dC dI cy cI cB cZ h a qx H locs) (ls : Array Slot) (hl : lv_has ls 4 [(0, .ref b), (1, .ref qx), (2, .ref h), (3, .int (nI i1))])
    (KK : ∀ (H1 : Heap) (locs1 : List Loc) (ls1 : Array Slot), lI s dC dI cy cI cB cZ h a qx H1 locs1 → lv_has ls1 4 [(0, .ref b), (1, .ref qx), (2, .ref h), (3, .int (nI i1))] → W p l e room_1 s m #[Value.ref b] below meth c H1 locs1 (100 + 2 * (k + 1)) (3000 + 12 * (k + 1)) (lw_Z below #[Value.ref b] s) (F0 m 1452 ls1 [])) :
    W p l e room_1 s m #[Value.ref b] below meth c H locs (100 + 2 * k) (3000 + 12 * k) (lw_Z below #[Value.ref b] s) (F0 m 615 ls []) := by
  obtain ⟨hx, hb, hr, hml, hown, hts0, hX, hbl, hlocks, hgv⟩ := C0
  obtain ⟨hK, hN, hK3, hO4⟩ := hSt
  obtain ⟨F, M, Y, rl, ad, hv, hq, hrl, hPX, hDX, hPR, hDR, hS, hAR⟩ := hv9
  subst hq
  have hts : ∀ w ∈ wsL_law, w.before #[Value.ref b] s = true := fun w hw => hts0 w (wsL_law_in w hw)
  replace hown : s.vm.findClass RL = some m.cls := hown
  have hbA : ¬ A0 s b := Nat.not_le.mpr hbl
  refine lv_aload_n hx hb dL_law_615 rfl (lv_at hl 1 rfl) ?_
  refine lv_aload_n hx hb dL_law_616 rfl (lv_at hl 0 rfl) ?_
  refine lv_iload_n hx hb dL_law_617 rfl (lv_at hl 3 rfl) ?_
  refine lv_iconst (v := 1) hx hb dL_law_618 (by decide) ?_
  refine lv_iadd hx hb dL_law_619 ?_
  refine va_sld hx hb hX hbl hbA hS (nx_in (show (nI i1) + 1 = nI ((i1) + 1) from by show (nI i1) + nI 1 = _; simp only [nI_add, pk_mul]) (by omega) (by omega)) dL_law_620 ?_
  rw [nx_cl (show (nI i1) + 1 = nI ((i1) + 1) from by show (nI i1) + nI 1 = _; simp only [nI_add, pk_mul]) (by omega)]
  refine lv_aload_n hx hb dL_law_621 rfl (lv_at hl 0 rfl) ?_
  refine lv_iload_n hx hb dL_law_622 rfl (lv_at hl 3 rfl) ?_
  refine lv_iconst (v := 2) hx hb dL_law_623 (by decide) ?_
  refine lv_iadd hx hb dL_law_624 ?_
  refine va_sld hx hb hX hbl hbA hS (nx_in (show (nI i1) + 2 = nI ((i1) + 2) from by show (nI i1) + nI 2 = _; simp only [nI_add, pk_mul]) (by omega) (by omega)) dL_law_625 ?_
  rw [nx_cl (show (nI i1) + 2 = nI ((i1) + 2) from by show (nI i1) + nI 2 = _; simp only [nI_add, pk_mul]) (by omega)]
  refine lv_aload_n hx hb dL_law_626 rfl (lv_at hl 0 rfl) ?_
  refine lv_iload_n hx hb dL_law_627 rfl (lv_at hl 3 rfl) ?_
  refine lv_iconst (v := 3) hx hb dL_law_628 (by decide) ?_
  refine lv_iadd hx hb dL_law_629 ?_
  refine va_sld hx hb hX hbl hbA hS (nx_in (show (nI i1) + 3 = nI ((i1) + 3) from by show (nI i1) + nI 3 = _; simp only [nI_add, pk_mul]) (by omega) (by omega)) dL_law_630 ?_
  rw [nx_cl (show (nI i1) + 3 = nI ((i1) + 3) from by show (nI i1) + nI 3 = _; simp only [nI_add, pk_mul]) (by omega)]
  refine lv_aload_n hx hb dL_law_631 rfl (lv_at hl 0 rfl) ?_
  refine lv_iload_n hx hb dL_law_632 rfl (lv_at hl 3 rfl) ?_
  refine lv_iconst (v := 4) hx hb dL_law_633 (by decide) ?_
  refine lv_iadd hx hb dL_law_634 ?_
  refine va_sld hx hb hX hbl hbA hS (nx_in (show (nI i1) + 4 = nI ((i1) + 4) from by show (nI i1) + nI 4 = _; simp only [nI_add, pk_mul]) (by omega) (by omega)) dL_law_635 ?_
  rw [nx_cl (show (nI i1) + 4 = nI ((i1) + 4) from by show (nI i1) + nI 4 = _; simp only [nI_add, pk_mul]) (by omega)]
  refine lv_if_eq (tgt := 643) hx hb dL_law_636 (by decide) (fun c1 => ?_) (fun c1 => ?_)
  · refine lv_iconst (v := 0) hx hb dL_law_643 (by decide) ?_
    refine vp_callSi (W.runV (As := [.int (xs ((i1) + 1)), .int (xs ((i1) + 2)), .int (xs ((i1) + 3)), .int 0]) (rest := []) ⟨hx, hb, hml, hown, hts⟩ (c_X10_when l dC dI rl ad cy F M Y (xs ((i1) + 1)) (xs ((i1) + 2)) (xs ((i1) + 3)) 0 hrl hv.1 hv.2) (cwV 4 hts gL_law_X10_when rfl rfl rfl (by decide +kernel) ⟨Nat.le_of_ble_eq_true rfl, Nat.le_of_ble_eq_true rfl⟩) ⟨pc_blind, rg_recv hK hPX ((hrl _).mpr (vd_9 (by decide))) (ci := 9) rfl en_9, fun U hU hW => ⟨rfl, by rw [hU]; exact hPX, va_K.moved hW.alike hK, nst_w hW hN⟩⟩ rfl rfl hl.1 rfl (lv_room (Nat.le_of_ble_eq_true rfl)) dL_law_644 ⟨show 100 + 2 * k + 0 ≤ 600000 by omega, show 3000 + 12 * k + 0 ≤ 7302250 by omega⟩) (fun r hr9 => ?_)
    subst hr9
    refine lv_aload_n hx hb dL_law_647 rfl (lv_at hl 2 rfl) ?_
    refine lv_aload_n hx hb dL_law_648 rfl (lv_at hl 0 rfl) ?_
    refine lv_iload_n hx hb dL_law_649 rfl (lv_at hl 3 rfl) ?_
    refine lv_iconst (v := 1) hx hb dL_law_650 (by decide) ?_
    refine lv_iadd hx hb dL_law_651 ?_
    refine va_sld hx hb hX hbl hbA hS (nx_in (show (nI i1) + 1 = nI ((i1) + 1) from by show (nI i1) + nI 1 = _; simp only [nI_add, pk_mul]) (by omega) (by omega)) dL_law_652 ?_
    rw [nx_cl (show (nI i1) + 1 = nI ((i1) + 1) from by show (nI i1) + nI 1 = _; simp only [nI_add, pk_mul]) (by omega)]
    refine lv_aload_n hx hb dL_law_653 rfl (lv_at hl 0 rfl) ?_
    refine lv_iload_n hx hb dL_law_654 rfl (lv_at hl 3 rfl) ?_
    refine lv_iconst (v := 2) hx hb dL_law_655 (by decide) ?_
    refine lv_iadd hx hb dL_law_656 ?_
    refine va_sld hx hb hX hbl hbA hS (nx_in (show (nI i1) + 2 = nI ((i1) + 2) from by show (nI i1) + nI 2 = _; simp only [nI_add, pk_mul]) (by omega) (by omega)) dL_law_657 ?_
    rw [nx_cl (show (nI i1) + 2 = nI ((i1) + 2) from by show (nI i1) + nI 2 = _; simp only [nI_add, pk_mul]) (by omega)]
    refine lv_aload_n hx hb dL_law_658 rfl (lv_at hl 0 rfl) ?_
    refine lv_iload_n hx hb dL_law_659 rfl (lv_at hl 3 rfl) ?_
    refine lv_iconst (v := 3) hx hb dL_law_660 (by decide) ?_
    refine lv_iadd hx hb dL_law_661 ?_
    refine va_sld hx hb hX hbl hbA hS (nx_in (show (nI i1) + 3 = nI ((i1) + 3) from by show (nI i1) + nI 3 = _; simp only [nI_add, pk_mul]) (by omega) (by omega)) dL_law_662 ?_
    rw [nx_cl (show (nI i1) + 3 = nI ((i1) + 3) from by show (nI i1) + nI 3 = _; simp only [nI_add, pk_mul]) (by omega)]
    refine lv_aload_n hx hb dL_law_663 rfl (lv_at hl 0 rfl) ?_
    refine lv_iload_n hx hb dL_law_664 rfl (lv_at hl 3 rfl) ?_
    refine lv_iconst (v := 4) hx hb dL_law_665 (by decide) ?_
    refine lv_iadd hx hb dL_law_666 ?_
    refine va_sld hx hb hX hbl hbA hS (nx_in (show (nI i1) + 4 = nI ((i1) + 4) from by show (nI i1) + nI 4 = _; simp only [nI_add, pk_mul]) (by omega) (by omega)) dL_law_667 ?_
    rw [nx_cl (show (nI i1) + 4 = nI ((i1) + 4) from by show (nI i1) + nI 4 = _; simp only [nI_add, pk_mul]) (by omega)]
    refine lv_if_eq (tgt := 675) hx hb dL_law_668 (by decide) (fun _ => ?_) (fun c => absurd c1 c)
    refine lv_iconst (v := 0) hx hb dL_law_675 (by decide) ?_
    refine vp_callSi (W.runV (As := [.int (xs ((i1) + 1)), .int (xs ((i1) + 2)), .int (xs ((i1) + 3)), .int 0]) (rest := [.int (s_X11_when F M (xs ((i1) + 1)) (xs ((i1) + 2)) (xs ((i1) + 3)) 0)]) ⟨hx, hb, hml, hown, hts⟩ (c_X11_when l dC dI h a cI cB cZ F M (xs ((i1) + 1)) (xs ((i1) + 2)) (xs ((i1) + 3)) 0 hv.1) (cwV 4 hts gL_law_X11_when rfl rfl rfl (by decide +kernel) ⟨Nat.le_of_ble_eq_true rfl, Nat.le_of_ble_eq_true rfl⟩) ⟨pm_blind, va_recv hK3 hPR (ci := 10) (q0 := 0) rfl rfl, fun U hU hW => ⟨rfl, by rw [hU]; exact hPR, va_K.moved hW.alike hK3⟩⟩ rfl rfl hl.1 rfl (lv_room (Nat.le_of_ble_eq_true rfl)) dL_law_676 ⟨show 100 + 2 * k + 0 ≤ 600000 by omega, show 3000 + 12 * k + 0 ≤ 7302250 by omega⟩) (fun r hr9 => ?_)
    subst hr9
    refine lv_icmp_eq (tgt := 1452) hx hb dL_law_679 (by decide) (fun _ => ?_) (fun c => absurd rfl c)
    refine W.widen (k := 100 + 2 * (k + 1)) (n := 3000 + 12 * (k + 1)) (by omega) (by omega) ?_
    exact KK H locs ls ⟨F, M, Y, rl, ad, hv, rfl, hrl, hPX, hDX, hPR, hDR, hS, hAR⟩ (lv_sub hl [0, 1, 2, 3] rfl)
  · refine lv_iconst (v := 1) hx hb dL_law_639 (by decide) ?_
    refine lv_goto (tgt := 644) hx hb dL_law_640 (by decide) ?_
    refine vp_callSi (W.runV (As := [.int (xs ((i1) + 1)), .int (xs ((i1) + 2)), .int (xs ((i1) + 3)), .int 1]) (rest := []) ⟨hx, hb, hml, hown, hts⟩ (c_X10_when l dC dI rl ad cy F M Y (xs ((i1) + 1)) (xs ((i1) + 2)) (xs ((i1) + 3)) 1 hrl hv.1 hv.2) (cwV 4 hts gL_law_X10_when rfl rfl rfl (by decide +kernel) ⟨Nat.le_of_ble_eq_true rfl, Nat.le_of_ble_eq_true rfl⟩) ⟨pc_blind, rg_recv hK hPX ((hrl _).mpr (vd_9 (by decide))) (ci := 9) rfl en_9, fun U hU hW => ⟨rfl, by rw [hU]; exact hPX, va_K.moved hW.alike hK, nst_w hW hN⟩⟩ rfl rfl hl.1 rfl (lv_room (Nat.le_of_ble_eq_true rfl)) dL_law_644 ⟨show 100 + 2 * k + 0 ≤ 600000 by omega, show 3000 + 12 * k + 0 ≤ 7302250 by omega⟩) (fun r hr9 => ?_)
    subst hr9
    refine lv_aload_n hx hb dL_law_647 rfl (lv_at hl 2 rfl) ?_
    refine lv_aload_n hx hb dL_law_648 rfl (lv_at hl 0 rfl) ?_
    refine lv_iload_n hx hb dL_law_649 rfl (lv_at hl 3 rfl) ?_
    refine lv_iconst (v := 1) hx hb dL_law_650 (by decide) ?_
    refine lv_iadd hx hb dL_law_651 ?_
    refine va_sld hx hb hX hbl hbA hS (nx_in (show (nI i1) + 1 = nI ((i1) + 1) from by show (nI i1) + nI 1 = _; simp only [nI_add, pk_mul]) (by omega) (by omega)) dL_law_652 ?_
    rw [nx_cl (show (nI i1) + 1 = nI ((i1) + 1) from by show (nI i1) + nI 1 = _; simp only [nI_add, pk_mul]) (by omega)]
    refine lv_aload_n hx hb dL_law_653 rfl (lv_at hl 0 rfl) ?_
    refine lv_iload_n hx hb dL_law_654 rfl (lv_at hl 3 rfl) ?_
    refine lv_iconst (v := 2) hx hb dL_law_655 (by decide) ?_
    refine lv_iadd hx hb dL_law_656 ?_
    refine va_sld hx hb hX hbl hbA hS (nx_in (show (nI i1) + 2 = nI ((i1) + 2) from by show (nI i1) + nI 2 = _; simp only [nI_add, pk_mul]) (by omega) (by omega)) dL_law_657 ?_
    rw [nx_cl (show (nI i1) + 2 = nI ((i1) + 2) from by show (nI i1) + nI 2 = _; simp only [nI_add, pk_mul]) (by omega)]
    refine lv_aload_n hx hb dL_law_658 rfl (lv_at hl 0 rfl) ?_
    refine lv_iload_n hx hb dL_law_659 rfl (lv_at hl 3 rfl) ?_
    refine lv_iconst (v := 3) hx hb dL_law_660 (by decide) ?_
    refine lv_iadd hx hb dL_law_661 ?_
    refine va_sld hx hb hX hbl hbA hS (nx_in (show (nI i1) + 3 = nI ((i1) + 3) from by show (nI i1) + nI 3 = _; simp only [nI_add, pk_mul]) (by omega) (by omega)) dL_law_662 ?_
    rw [nx_cl (show (nI i1) + 3 = nI ((i1) + 3) from by show (nI i1) + nI 3 = _; simp only [nI_add, pk_mul]) (by omega)]
    refine lv_aload_n hx hb dL_law_663 rfl (lv_at hl 0 rfl) ?_
    refine lv_iload_n hx hb dL_law_664 rfl (lv_at hl 3 rfl) ?_
    refine lv_iconst (v := 4) hx hb dL_law_665 (by decide) ?_
    refine lv_iadd hx hb dL_law_666 ?_
    refine va_sld hx hb hX hbl hbA hS (nx_in (show (nI i1) + 4 = nI ((i1) + 4) from by show (nI i1) + nI 4 = _; simp only [nI_add, pk_mul]) (by omega) (by omega)) dL_law_667 ?_
    rw [nx_cl (show (nI i1) + 4 = nI ((i1) + 4) from by show (nI i1) + nI 4 = _; simp only [nI_add, pk_mul]) (by omega)]
    refine lv_if_eq (tgt := 675) hx hb dL_law_668 (by decide) (fun c => absurd c c1) (fun _ => ?_)
    refine lv_iconst (v := 1) hx hb dL_law_671 (by decide) ?_
    refine lv_goto (tgt := 676) hx hb dL_law_672 (by decide) ?_
    refine vp_callSi (W.runV (As := [.int (xs ((i1) + 1)), .int (xs ((i1) + 2)), .int (xs ((i1) + 3)), .int 1]) (rest := [.int (s_X11_when F M (xs ((i1) + 1)) (xs ((i1) + 2)) (xs ((i1) + 3)) 1)]) ⟨hx, hb, hml, hown, hts⟩ (c_X11_when l dC dI h a cI cB cZ F M (xs ((i1) + 1)) (xs ((i1) + 2)) (xs ((i1) + 3)) 1 hv.1) (cwV 4 hts gL_law_X11_when rfl rfl rfl (by decide +kernel) ⟨Nat.le_of_ble_eq_true rfl, Nat.le_of_ble_eq_true rfl⟩) ⟨pm_blind, va_recv hK3 hPR (ci := 10) (q0 := 0) rfl rfl, fun U hU hW => ⟨rfl, by rw [hU]; exact hPR, va_K.moved hW.alike hK3⟩⟩ rfl rfl hl.1 rfl (lv_room (Nat.le_of_ble_eq_true rfl)) dL_law_676 ⟨show 100 + 2 * k + 0 ≤ 600000 by omega, show 3000 + 12 * k + 0 ≤ 7302250 by omega⟩) (fun r hr9 => ?_)
    subst hr9
    refine lv_icmp_eq (tgt := 1452) hx hb dL_law_679 (by decide) (fun _ => ?_) (fun c => absurd rfl c)
    refine W.widen (k := 100 + 2 * (k + 1)) (n := 3000 + 12 * (k + 1)) (by omega) (by omega) ?_
    exact KK H locs ls ⟨F, M, Y, rl, ad, hv, rfl, hrl, hPX, hDX, hPR, hDR, hS, hAR⟩ (lv_sub hl [0, 1, 2, 3] rfl)

set_option maxHeartbeats 4000000 in
set_option maxRecDepth 100000 in
theorem lc_first {p : Program} {l : Launch} {e : Env} {s : State} {m : MethodId} {below : List Frame} {meth : Method} {c : Code} {dC : Nat → ClassId} {dI : Nat → Nat → Nat} {cy : Nat → ClassId} {cI cB cZ : ClassId} {h : Nat} {a : Nat → Nat} {b L : Nat} {xs : Nat → Int32} (hL : L ≤ 3584) (C0 : lw_At p s m meth c b L xs) (hSt : lS s dC dI cy cI cB cZ) (k i1 : Nat) (hik : i1 = 7 * k) (hi7 : i1 + 7 ≤ L) (qx : Nat) (H : Heap) (locs : List Loc) (hv9 : lI s dC dI cy cI cB cZ h a qx H locs) (ls : Array Slot) (hl : lv_has ls 4 [(0, .ref b), (1, .ref qx), (2, .ref h), (3, .int (nI i1))])
    (KK : ∀ (H1 : Heap) (locs1 : List Loc) (ls1 : Array Slot), lI s dC dI cy cI cB cZ h a qx H1 locs1 → lv_has ls1 4 [(0, .ref b), (1, .ref qx), (2, .ref h), (3, .int (nI i1))] → W p l e room_1 s m #[Value.ref b] below meth c H1 locs1 (100 + 2 * (k + 1)) (3000 + 12 * (k + 1)) (lw_Z below #[Value.ref b] s) (F0 m 1452 ls1 [])) :
    W p l e room_1 s m #[Value.ref b] below meth c H locs (100 + 2 * k) (3000 + 12 * k) (lw_Z below #[Value.ref b] s) (F0 m 684 ls []) := by
  obtain ⟨hx, hb, hr, hml, hown, hts0, hX, hbl, hlocks, hgv⟩ := C0
  obtain ⟨hK, hN, hK3, hO4⟩ := hSt
  obtain ⟨F, M, Y, rl, ad, hv, hq, hrl, hPX, hDX, hPR, hDR, hS, hAR⟩ := hv9
  subst hq
  have hts : ∀ w ∈ wsL_law, w.before #[Value.ref b] s = true := fun w hw => hts0 w (wsL_law_in w hw)
  replace hown : s.vm.findClass RL = some m.cls := hown
  have hbA : ¬ A0 s b := Nat.not_le.mpr hbl
  refine lv_aload_n hx hb dL_law_684 rfl (lv_at hl 1 rfl) ?_
  refine lv_aload_n hx hb dL_law_685 rfl (lv_at hl 0 rfl) ?_
  refine lv_iload_n hx hb dL_law_686 rfl (lv_at hl 3 rfl) ?_
  refine lv_iconst (v := 1) hx hb dL_law_687 (by decide) ?_
  refine lv_iadd hx hb dL_law_688 ?_
  refine va_sld hx hb hX hbl hbA hS (nx_in (show (nI i1) + 1 = nI ((i1) + 1) from by show (nI i1) + nI 1 = _; simp only [nI_add, pk_mul]) (by omega) (by omega)) dL_law_689 ?_
  rw [nx_cl (show (nI i1) + 1 = nI ((i1) + 1) from by show (nI i1) + nI 1 = _; simp only [nI_add, pk_mul]) (by omega)]
  refine lv_aload_n hx hb dL_law_690 rfl (lv_at hl 0 rfl) ?_
  refine lv_iload_n hx hb dL_law_691 rfl (lv_at hl 3 rfl) ?_
  refine lv_iconst (v := 2) hx hb dL_law_692 (by decide) ?_
  refine lv_iadd hx hb dL_law_693 ?_
  refine va_sld hx hb hX hbl hbA hS (nx_in (show (nI i1) + 2 = nI ((i1) + 2) from by show (nI i1) + nI 2 = _; simp only [nI_add, pk_mul]) (by omega) (by omega)) dL_law_694 ?_
  rw [nx_cl (show (nI i1) + 2 = nI ((i1) + 2) from by show (nI i1) + nI 2 = _; simp only [nI_add, pk_mul]) (by omega)]
  refine lv_aload_n hx hb dL_law_695 rfl (lv_at hl 0 rfl) ?_
  refine lv_iload_n hx hb dL_law_696 rfl (lv_at hl 3 rfl) ?_
  refine lv_iconst (v := 3) hx hb dL_law_697 (by decide) ?_
  refine lv_iadd hx hb dL_law_698 ?_
  refine va_sld hx hb hX hbl hbA hS (nx_in (show (nI i1) + 3 = nI ((i1) + 3) from by show (nI i1) + nI 3 = _; simp only [nI_add, pk_mul]) (by omega) (by omega)) dL_law_699 ?_
  rw [nx_cl (show (nI i1) + 3 = nI ((i1) + 3) from by show (nI i1) + nI 3 = _; simp only [nI_add, pk_mul]) (by omega)]
  refine va_calli (va_runV (As := [.int (xs ((i1) + 1)), .int (xs ((i1) + 2)), .int (xs ((i1) + 3))]) (rest := []) ⟨hx, hb, hml, hown, hts⟩ (c_X10_first l dC dI rl ad cy F M Y (xs ((i1) + 1)) (xs ((i1) + 2)) (xs ((i1) + 3)) hrl hv.1 hv.2 (AX s h a) hDX) (cwV 3 hts gL_law_X10_first rfl rfl rfl (by decide +kernel) ⟨Nat.le_of_ble_eq_true rfl, Nat.le_of_ble_eq_true rfl⟩) ⟨pc_blind, rg_recv hK hPX ((hrl _).mpr (vd_9 (by decide))) (ci := 9) rfl en_9, fun U hU hW => ⟨rfl, by rw [hU]; exact hPX, va_K.moved hW.alike hK, nst_w hW hN⟩⟩ rfl rfl hl.1 rfl (lv_room (Nat.le_of_ble_eq_true rfl)) dL_law_700 ⟨show 100 + 2 * k + 0 ≤ 600000 by omega, show 3000 + 12 * k + 0 ≤ 7302250 by omega⟩) hS (fun q _ h => h.1) (fun q h => h.1) (fun r u t H1 locs ht hvm hw hB hz1 hk1 hS => ?_)
  subst hw
  obtain ⟨⟨hP1, -, -⟩, hD1⟩ := hB
  rw [ht] at hP1
  replace hPR := wk hPR (fun k q hk => hk1 q.1 (hPR k q hk).lt (fun z => z.2 (hDR.2 k q hk)))
  refine lv_aload_n hx hb dL_law_703 rfl (lv_at hl 2 rfl) ?_
  refine lv_aload_n hx hb dL_law_704 rfl (lv_at hl 0 rfl) ?_
  refine lv_iload_n hx hb dL_law_705 rfl (lv_at hl 3 rfl) ?_
  refine lv_iconst (v := 1) hx hb dL_law_706 (by decide) ?_
  refine lv_iadd hx hb dL_law_707 ?_
  refine va_sld hx hb hX hbl hbA hS (nx_in (show (nI i1) + 1 = nI ((i1) + 1) from by show (nI i1) + nI 1 = _; simp only [nI_add, pk_mul]) (by omega) (by omega)) dL_law_708 ?_
  rw [nx_cl (show (nI i1) + 1 = nI ((i1) + 1) from by show (nI i1) + nI 1 = _; simp only [nI_add, pk_mul]) (by omega)]
  refine lv_aload_n hx hb dL_law_709 rfl (lv_at hl 0 rfl) ?_
  refine lv_iload_n hx hb dL_law_710 rfl (lv_at hl 3 rfl) ?_
  refine lv_iconst (v := 2) hx hb dL_law_711 (by decide) ?_
  refine lv_iadd hx hb dL_law_712 ?_
  refine va_sld hx hb hX hbl hbA hS (nx_in (show (nI i1) + 2 = nI ((i1) + 2) from by show (nI i1) + nI 2 = _; simp only [nI_add, pk_mul]) (by omega) (by omega)) dL_law_713 ?_
  rw [nx_cl (show (nI i1) + 2 = nI ((i1) + 2) from by show (nI i1) + nI 2 = _; simp only [nI_add, pk_mul]) (by omega)]
  refine lv_aload_n hx hb dL_law_714 rfl (lv_at hl 0 rfl) ?_
  refine lv_iload_n hx hb dL_law_715 rfl (lv_at hl 3 rfl) ?_
  refine lv_iconst (v := 3) hx hb dL_law_716 (by decide) ?_
  refine lv_iadd hx hb dL_law_717 ?_
  refine va_sld hx hb hX hbl hbA hS (nx_in (show (nI i1) + 3 = nI ((i1) + 3) from by show (nI i1) + nI 3 = _; simp only [nI_add, pk_mul]) (by omega) (by omega)) dL_law_718 ?_
  rw [nx_cl (show (nI i1) + 3 = nI ((i1) + 3) from by show (nI i1) + nI 3 = _; simp only [nI_add, pk_mul]) (by omega)]
  refine va_calli (va_runV (As := [.int (xs ((i1) + 1)), .int (xs ((i1) + 2)), .int (xs ((i1) + 3))]) (rest := [.int ((s_X11_first F M (xs ((i1) + 1)) (xs ((i1) + 2)) (xs ((i1) + 3))).1)]) ⟨hx, hb, hml, hown, hts⟩ (c_X11_first l dC dI h a cI cB cZ F M (xs ((i1) + 1)) (xs ((i1) + 2)) (xs ((i1) + 3)) (AR h a) hDR hv.1) (cwV 3 hts gL_law_X11_first rfl rfl rfl (by decide +kernel) ⟨Nat.le_of_ble_eq_true rfl, Nat.le_of_ble_eq_true rfl⟩) ⟨pm_blind, va_recv hK3 hPR (ci := 10) (q0 := 0) rfl rfl, fun U hU hW => ⟨rfl, by rw [hU]; exact hPR, va_K.moved hW.alike hK3⟩⟩ rfl rfl hl.1 rfl (lv_room (Nat.le_of_ble_eq_true rfl)) dL_law_719 ⟨show 100 + 2 * k + 0 + 0 ≤ 600000 by omega, show 3000 + 12 * k + 0 + 0 ≤ 7302250 by omega⟩) hS (fun q _ h => hAR q h) (fun q h => hAR q h) (fun r u t H2 locs ht hvm hw hB hz2 hk2 hS => ?_)
  obtain ⟨hr9, hu9⟩ : r = (s_X11_first F M (xs ((i1) + 1)) (xs ((i1) + 2)) (xs ((i1) + 3))).1 ∧ u = (s_X11_first F M (xs ((i1) + 1)) (xs ((i1) + 2)) (xs ((i1) + 3))).2 := ⟨congrArg Prod.fst hw, congrArg Prod.snd hw⟩
  subst hr9; subst hu9
  obtain ⟨⟨hP2, -⟩, hD2⟩ := hB
  rw [ht] at hP2
  have hPX := wk hP1 (fun k q hk => hk2 q.1 (hP1 k q hk).lt (hD1.2 k q hk).2)
  have hDX := hD1; have hPR := hP2
  refine lv_icmp_eq (tgt := 1452) hx hb dL_law_722 (by decide) (fun _ => ?_) (fun c => absurd rfl c)
  refine W.widen (k := 100 + 2 * (k + 1)) (n := 3000 + 12 * (k + 1)) (by omega) (by omega) ?_
  exact KK _ _ _ ⟨(s_X11_first F M (xs ((i1) + 1)) (xs ((i1) + 2)) (xs ((i1) + 3))).2.1, (s_X11_first F M (xs ((i1) + 1)) (xs ((i1) + 2)) (xs ((i1) + 3))).2.2, _, rl, ad, k_first (xs ((i1) + 1)) (xs ((i1) + 2)) (xs ((i1) + 3)) hv.1 hv.2, rfl, fun r => (hrl r).trans (v_first F M (xs ((i1) + 1)) (xs ((i1) + 2)) (xs ((i1) + 3)) r).symm, hPX, hDX, hPR, dR hD2, hS, hAR⟩ (lv_sub hl [0, 1, 2, 3] rfl)

set_option maxHeartbeats 4000000 in
set_option maxRecDepth 100000 in
theorem lc_mean {p : Program} {l : Launch} {e : Env} {s : State} {m : MethodId} {below : List Frame} {meth : Method} {c : Code} {dC : Nat → ClassId} {dI : Nat → Nat → Nat} {cy : Nat → ClassId} {cI cB cZ : ClassId} {h : Nat} {a : Nat → Nat} {b L : Nat} {xs : Nat → Int32} (hL : L ≤ 3584) (C0 : lw_At p s m meth c b L xs) (hSt : lS s dC dI cy cI cB cZ) (k i1 : Nat) (hik : i1 = 7 * k) (hi7 : i1 + 7 ≤ L) (qx : Nat) (H : Heap) (locs : List Loc) (hv9 : lI s dC dI cy cI cB cZ h a qx H locs) (ls : Array Slot) (hl : lv_has ls 4 [(0, .ref b), (1, .ref qx), (2, .ref h), (3, .int (nI i1))])
    (KK : ∀ (H1 : Heap) (locs1 : List Loc) (ls1 : Array Slot), lI s dC dI cy cI cB cZ h a qx H1 locs1 → lv_has ls1 4 [(0, .ref b), (1, .ref qx), (2, .ref h), (3, .int (nI i1))] → W p l e room_1 s m #[Value.ref b] below meth c H1 locs1 (100 + 2 * (k + 1)) (3000 + 12 * (k + 1)) (lw_Z below #[Value.ref b] s) (F0 m 1452 ls1 [])) :
    W p l e room_1 s m #[Value.ref b] below meth c H locs (100 + 2 * k) (3000 + 12 * k) (lw_Z below #[Value.ref b] s) (F0 m 727 ls []) := by
  obtain ⟨hx, hb, hr, hml, hown, hts0, hX, hbl, hlocks, hgv⟩ := C0
  obtain ⟨hK, hN, hK3, hO4⟩ := hSt
  obtain ⟨F, M, Y, rl, ad, hv, hq, hrl, hPX, hDX, hPR, hDR, hS, hAR⟩ := hv9
  subst hq
  have hts : ∀ w ∈ wsL_law, w.before #[Value.ref b] s = true := fun w hw => hts0 w (wsL_law_in w hw)
  replace hown : s.vm.findClass RL = some m.cls := hown
  have hbA : ¬ A0 s b := Nat.not_le.mpr hbl
  refine lv_aload_n hx hb dL_law_727 rfl (lv_at hl 1 rfl) ?_
  refine va_calli (va_runV (As := []) (rest := []) ⟨hx, hb, hml, hown, hts⟩ (c_X10_mean l dC dI rl ad cy F M Y  hrl hv.1 hv.2 (AX s h a) hDX) (cwV 0 hts gL_law_X10_mean rfl rfl rfl (by decide +kernel) ⟨Nat.le_of_ble_eq_true rfl, Nat.le_of_ble_eq_true rfl⟩) ⟨pc_blind, rg_recv hK hPX ((hrl _).mpr (vd_9 (by decide))) (ci := 9) rfl en_9, fun U hU hW => ⟨rfl, by rw [hU]; exact hPX, va_K.moved hW.alike hK, nst_w hW hN⟩⟩ rfl rfl hl.1 rfl (lv_room (Nat.le_of_ble_eq_true rfl)) dL_law_728 ⟨show 100 + 2 * k + 0 ≤ 600000 by omega, show 3000 + 12 * k + 0 ≤ 7302250 by omega⟩) hS (fun q _ h => h.1) (fun q h => h.1) (fun r u t H1 locs ht hvm hw hB hz1 hk1 hS => ?_)
  subst hw
  obtain ⟨⟨hP1, -, -⟩, hD1⟩ := hB
  rw [ht] at hP1
  replace hPR := wk hPR (fun k q hk => hk1 q.1 (hPR k q hk).lt (fun z => z.2 (hDR.2 k q hk)))
  refine lv_aload_n hx hb dL_law_731 rfl (lv_at hl 2 rfl) ?_
  refine va_calli (va_runV (As := []) (rest := [.int ((s_X11_mean F M ).1)]) ⟨hx, hb, hml, hown, hts⟩ (c_X11_mean l dC dI h a cI cB cZ F M  (AR h a) hDR hv.1) (cwV 0 hts gL_law_X11_mean rfl rfl rfl (by decide +kernel) ⟨Nat.le_of_ble_eq_true rfl, Nat.le_of_ble_eq_true rfl⟩) ⟨pm_blind, va_recv hK3 hPR (ci := 10) (q0 := 0) rfl rfl, fun U hU hW => ⟨rfl, by rw [hU]; exact hPR, va_K.moved hW.alike hK3⟩⟩ rfl rfl hl.1 rfl (lv_room (Nat.le_of_ble_eq_true rfl)) dL_law_732 ⟨show 100 + 2 * k + 0 + 0 ≤ 600000 by omega, show 3000 + 12 * k + 0 + 0 ≤ 7302250 by omega⟩) hS (fun q _ h => hAR q h) (fun q h => hAR q h) (fun r u t H2 locs ht hvm hw hB hz2 hk2 hS => ?_)
  obtain ⟨hr9, hu9⟩ : r = (s_X11_mean F M ).1 ∧ u = (s_X11_mean F M ).2 := ⟨congrArg Prod.fst hw, congrArg Prod.snd hw⟩
  subst hr9; subst hu9
  obtain ⟨⟨hP2, -⟩, hD2⟩ := hB
  rw [ht] at hP2
  have hPX := wk hP1 (fun k q hk => hk2 q.1 (hP1 k q hk).lt (hD1.2 k q hk).2)
  have hDX := hD1; have hPR := hP2
  refine lv_icmp_eq (tgt := 1452) hx hb dL_law_735 (by decide) (fun _ => ?_) (fun c => absurd rfl c)
  refine W.widen (k := 100 + 2 * (k + 1)) (n := 3000 + 12 * (k + 1)) (by omega) (by omega) ?_
  exact KK _ _ _ ⟨(s_X11_mean F M ).2.1, (s_X11_mean F M ).2.2, _, rl, ad, k_mean  hv.1 hv.2, rfl, fun r => (hrl r).trans (v_mean F M  r).symm, hPX, hDX, hPR, dR hD2, hS, hAR⟩ (lv_sub hl [0, 1, 2, 3] rfl)

set_option maxHeartbeats 4000000 in
set_option maxRecDepth 100000 in
theorem lc_byelaw {p : Program} {l : Launch} {e : Env} {s : State} {m : MethodId} {below : List Frame} {meth : Method} {c : Code} {dC : Nat → ClassId} {dI : Nat → Nat → Nat} {cy : Nat → ClassId} {cI cB cZ : ClassId} {h : Nat} {a : Nat → Nat} {b L : Nat} {xs : Nat → Int32} (hL : L ≤ 3584) (C0 : lw_At p s m meth c b L xs) (hSt : lS s dC dI cy cI cB cZ) (k i1 : Nat) (hik : i1 = 7 * k) (hi7 : i1 + 7 ≤ L) (qx : Nat) (H : Heap) (locs : List Loc) (hv9 : lI s dC dI cy cI cB cZ h a qx H locs) (ls : Array Slot) (hl : lv_has ls 4 [(0, .ref b), (1, .ref qx), (2, .ref h), (3, .int (nI i1))])
    (KK : ∀ (H1 : Heap) (locs1 : List Loc) (ls1 : Array Slot), lI s dC dI cy cI cB cZ h a qx H1 locs1 → lv_has ls1 4 [(0, .ref b), (1, .ref qx), (2, .ref h), (3, .int (nI i1))] → W p l e room_1 s m #[Value.ref b] below meth c H1 locs1 (100 + 2 * (k + 1)) (3000 + 12 * (k + 1)) (lw_Z below #[Value.ref b] s) (F0 m 1452 ls1 [])) :
    W p l e room_1 s m #[Value.ref b] below meth c H locs (100 + 2 * k) (3000 + 12 * k) (lw_Z below #[Value.ref b] s) (F0 m 740 ls []) := by
  obtain ⟨hx, hb, hr, hml, hown, hts0, hX, hbl, hlocks, hgv⟩ := C0
  obtain ⟨hK, hN, hK3, hO4⟩ := hSt
  obtain ⟨F, M, Y, rl, ad, hv, hq, hrl, hPX, hDX, hPR, hDR, hS, hAR⟩ := hv9
  subst hq
  have hts : ∀ w ∈ wsL_law, w.before #[Value.ref b] s = true := fun w hw => hts0 w (wsL_law_in w hw)
  replace hown : s.vm.findClass RL = some m.cls := hown
  have hbA : ¬ A0 s b := Nat.not_le.mpr hbl
  have hAX : ∀ q, H.size ≤ q → AX s h a q := fun q hq => ⟨Nat.le_trans hS.1 hq, fun z => absurd (ar_lt hPR z) (Nat.not_lt.mpr hq)⟩
  refine lv_aload_n hx hb dL_law_740 rfl (lv_at hl 1 rfl) ?_
  refine lv_aload_n hx hb dL_law_741 rfl (lv_at hl 0 rfl) ?_
  refine lv_iload_n hx hb dL_law_742 rfl (lv_at hl 3 rfl) ?_
  refine lv_iconst (v := 1) hx hb dL_law_743 (by decide) ?_
  refine lv_iadd hx hb dL_law_744 ?_
  refine va_sld hx hb hX hbl hbA hS (nx_in (show (nI i1) + 1 = nI ((i1) + 1) from by show (nI i1) + nI 1 = _; simp only [nI_add, pk_mul]) (by omega) (by omega)) dL_law_745 ?_
  rw [nx_cl (show (nI i1) + 1 = nI ((i1) + 1) from by show (nI i1) + nI 1 = _; simp only [nI_add, pk_mul]) (by omega)]
  refine lv_aload_n hx hb dL_law_746 rfl (lv_at hl 0 rfl) ?_
  refine lv_iload_n hx hb dL_law_747 rfl (lv_at hl 3 rfl) ?_
  refine lv_iconst (v := 2) hx hb dL_law_748 (by decide) ?_
  refine lv_iadd hx hb dL_law_749 ?_
  refine va_sld hx hb hX hbl hbA hS (nx_in (show (nI i1) + 2 = nI ((i1) + 2) from by show (nI i1) + nI 2 = _; simp only [nI_add, pk_mul]) (by omega) (by omega)) dL_law_750 ?_
  rw [nx_cl (show (nI i1) + 2 = nI ((i1) + 2) from by show (nI i1) + nI 2 = _; simp only [nI_add, pk_mul]) (by omega)]
  refine lv_aload_n hx hb dL_law_751 rfl (lv_at hl 0 rfl) ?_
  refine lv_iload_n hx hb dL_law_752 rfl (lv_at hl 3 rfl) ?_
  refine lv_iconst (v := 3) hx hb dL_law_753 (by decide) ?_
  refine lv_iadd hx hb dL_law_754 ?_
  refine va_sld hx hb hX hbl hbA hS (nx_in (show (nI i1) + 3 = nI ((i1) + 3) from by show (nI i1) + nI 3 = _; simp only [nI_add, pk_mul]) (by omega) (by omega)) dL_law_755 ?_
  rw [nx_cl (show (nI i1) + 3 = nI ((i1) + 3) from by show (nI i1) + nI 3 = _; simp only [nI_add, pk_mul]) (by omega)]
  refine lv_aload_n hx hb dL_law_756 rfl (lv_at hl 0 rfl) ?_
  refine lv_iload_n hx hb dL_law_757 rfl (lv_at hl 3 rfl) ?_
  refine lv_iconst (v := 4) hx hb dL_law_758 (by decide) ?_
  refine lv_iadd hx hb dL_law_759 ?_
  refine va_sld hx hb hX hbl hbA hS (nx_in (show (nI i1) + 4 = nI ((i1) + 4) from by show (nI i1) + nI 4 = _; simp only [nI_add, pk_mul]) (by omega) (by omega)) dL_law_760 ?_
  rw [nx_cl (show (nI i1) + 4 = nI ((i1) + 4) from by show (nI i1) + nI 4 = _; simp only [nI_add, pk_mul]) (by omega)]
  refine lv_aload_n hx hb dL_law_761 rfl (lv_at hl 0 rfl) ?_
  refine lv_iload_n hx hb dL_law_762 rfl (lv_at hl 3 rfl) ?_
  refine lv_iconst (v := 5) hx hb dL_law_763 (by decide) ?_
  refine lv_iadd hx hb dL_law_764 ?_
  refine va_sld hx hb hX hbl hbA hS (nx_in (show (nI i1) + 5 = nI ((i1) + 5) from by show (nI i1) + nI 5 = _; simp only [nI_add, pk_mul]) (by omega) (by omega)) dL_law_765 ?_
  rw [nx_cl (show (nI i1) + 5 = nI ((i1) + 5) from by show (nI i1) + nI 5 = _; simp only [nI_add, pk_mul]) (by omega)]
  refine lv_aload_n hx hb dL_law_766 rfl (lv_at hl 0 rfl) ?_
  refine lv_iload_n hx hb dL_law_767 rfl (lv_at hl 3 rfl) ?_
  refine lv_bipush (v := 6) hx hb dL_law_768 (by decide) ?_
  refine lv_iadd hx hb dL_law_770 ?_
  refine va_sld hx hb hX hbl hbA hS (nx_in (show (nI i1) + 6 = nI ((i1) + 6) from by show (nI i1) + nI 6 = _; simp only [nI_add, pk_mul]) (by omega) (by omega)) dL_law_771 ?_
  rw [nx_cl (show (nI i1) + 6 = nI ((i1) + 6) from by show (nI i1) + nI 6 = _; simp only [nI_add, pk_mul]) (by omega)]
  refine va_calli (va_runV (As := [.int (xs ((i1) + 1)), .int (xs ((i1) + 2)), .int (xs ((i1) + 3)), .int (xs ((i1) + 4)), .int (xs ((i1) + 5)), .int (xs ((i1) + 6))]) (rest := []) ⟨hx, hb, hml, hown, hts⟩ (c_X10_byelaw l dC dI rl ad cy F M Y (xs ((i1) + 1)) (xs ((i1) + 2)) (xs ((i1) + 3)) (xs ((i1) + 4)) (xs ((i1) + 5)) (xs ((i1) + 6)) hrl hv.1 hv.2 (AX s h a) hDX) (cwV 6 hts gL_law_X10_byelaw rfl rfl rfl (by decide +kernel) ⟨Nat.le_of_ble_eq_true rfl, Nat.le_of_ble_eq_true rfl⟩) ⟨pa_blind, rg_recv hK hPX ((hrl _).mpr (vd_9 (by decide))) (ci := 9) rfl en_9, fun U hU hW => ⟨rfl, by rw [hU]; exact hAX, by rw [hU]; exact hPX, va_K.moved hW.alike hK, nst_w hW hN⟩⟩ rfl rfl hl.1 rfl (lv_room (Nat.le_of_ble_eq_true rfl)) dL_law_772 ⟨show 100 + 2 * k + 1 ≤ 600000 by omega, show 3000 + 12 * k + 6 ≤ 7302250 by omega⟩) hS (fun q _ h => h.1) (fun q h => h.1) (fun r u t H1 locs ht hvm hw hB hz1 hk1 hS => ?_)
  subst hw
  obtain ⟨⟨⟨hP1, -, -⟩, hD1⟩, hrl1, hq9⟩ := hB
  rw [ht] at hP1
  replace hPR := wk hPR (fun k q hk => hk1 q.1 (hPR k q hk).lt (fun z => z.2 (hDR.2 k q hk)))
  refine lv_aload_n hx hb dL_law_775 rfl (lv_at hl 2 rfl) ?_
  refine lv_aload_n hx hb dL_law_776 rfl (lv_at hl 0 rfl) ?_
  refine lv_iload_n hx hb dL_law_777 rfl (lv_at hl 3 rfl) ?_
  refine lv_iconst (v := 1) hx hb dL_law_778 (by decide) ?_
  refine lv_iadd hx hb dL_law_779 ?_
  refine va_sld hx hb hX hbl hbA hS (nx_in (show (nI i1) + 1 = nI ((i1) + 1) from by show (nI i1) + nI 1 = _; simp only [nI_add, pk_mul]) (by omega) (by omega)) dL_law_780 ?_
  rw [nx_cl (show (nI i1) + 1 = nI ((i1) + 1) from by show (nI i1) + nI 1 = _; simp only [nI_add, pk_mul]) (by omega)]
  refine lv_aload_n hx hb dL_law_781 rfl (lv_at hl 0 rfl) ?_
  refine lv_iload_n hx hb dL_law_782 rfl (lv_at hl 3 rfl) ?_
  refine lv_iconst (v := 2) hx hb dL_law_783 (by decide) ?_
  refine lv_iadd hx hb dL_law_784 ?_
  refine va_sld hx hb hX hbl hbA hS (nx_in (show (nI i1) + 2 = nI ((i1) + 2) from by show (nI i1) + nI 2 = _; simp only [nI_add, pk_mul]) (by omega) (by omega)) dL_law_785 ?_
  rw [nx_cl (show (nI i1) + 2 = nI ((i1) + 2) from by show (nI i1) + nI 2 = _; simp only [nI_add, pk_mul]) (by omega)]
  refine lv_aload_n hx hb dL_law_786 rfl (lv_at hl 0 rfl) ?_
  refine lv_iload_n hx hb dL_law_787 rfl (lv_at hl 3 rfl) ?_
  refine lv_iconst (v := 3) hx hb dL_law_788 (by decide) ?_
  refine lv_iadd hx hb dL_law_789 ?_
  refine va_sld hx hb hX hbl hbA hS (nx_in (show (nI i1) + 3 = nI ((i1) + 3) from by show (nI i1) + nI 3 = _; simp only [nI_add, pk_mul]) (by omega) (by omega)) dL_law_790 ?_
  rw [nx_cl (show (nI i1) + 3 = nI ((i1) + 3) from by show (nI i1) + nI 3 = _; simp only [nI_add, pk_mul]) (by omega)]
  refine lv_aload_n hx hb dL_law_791 rfl (lv_at hl 0 rfl) ?_
  refine lv_iload_n hx hb dL_law_792 rfl (lv_at hl 3 rfl) ?_
  refine lv_iconst (v := 4) hx hb dL_law_793 (by decide) ?_
  refine lv_iadd hx hb dL_law_794 ?_
  refine va_sld hx hb hX hbl hbA hS (nx_in (show (nI i1) + 4 = nI ((i1) + 4) from by show (nI i1) + nI 4 = _; simp only [nI_add, pk_mul]) (by omega) (by omega)) dL_law_795 ?_
  rw [nx_cl (show (nI i1) + 4 = nI ((i1) + 4) from by show (nI i1) + nI 4 = _; simp only [nI_add, pk_mul]) (by omega)]
  refine lv_aload_n hx hb dL_law_796 rfl (lv_at hl 0 rfl) ?_
  refine lv_iload_n hx hb dL_law_797 rfl (lv_at hl 3 rfl) ?_
  refine lv_iconst (v := 5) hx hb dL_law_798 (by decide) ?_
  refine lv_iadd hx hb dL_law_799 ?_
  refine va_sld hx hb hX hbl hbA hS (nx_in (show (nI i1) + 5 = nI ((i1) + 5) from by show (nI i1) + nI 5 = _; simp only [nI_add, pk_mul]) (by omega) (by omega)) dL_law_800 ?_
  rw [nx_cl (show (nI i1) + 5 = nI ((i1) + 5) from by show (nI i1) + nI 5 = _; simp only [nI_add, pk_mul]) (by omega)]
  refine lv_aload_n hx hb dL_law_801 rfl (lv_at hl 0 rfl) ?_
  refine lv_iload_n hx hb dL_law_802 rfl (lv_at hl 3 rfl) ?_
  refine lv_bipush (v := 6) hx hb dL_law_803 (by decide) ?_
  refine lv_iadd hx hb dL_law_805 ?_
  refine va_sld hx hb hX hbl hbA hS (nx_in (show (nI i1) + 6 = nI ((i1) + 6) from by show (nI i1) + nI 6 = _; simp only [nI_add, pk_mul]) (by omega) (by omega)) dL_law_806 ?_
  rw [nx_cl (show (nI i1) + 6 = nI ((i1) + 6) from by show (nI i1) + nI 6 = _; simp only [nI_add, pk_mul]) (by omega)]
  refine va_calli (va_runV (As := [.int (xs ((i1) + 1)), .int (xs ((i1) + 2)), .int (xs ((i1) + 3)), .int (xs ((i1) + 4)), .int (xs ((i1) + 5)), .int (xs ((i1) + 6))]) (rest := [.int ((s_X11_byelaw F M (xs ((i1) + 1)) (xs ((i1) + 2)) (xs ((i1) + 3)) (xs ((i1) + 4)) (xs ((i1) + 5)) (xs ((i1) + 6))).1)]) ⟨hx, hb, hml, hown, hts⟩ (c_X11_byelaw l dC dI h a cI cB cZ F M (xs ((i1) + 1)) (xs ((i1) + 2)) (xs ((i1) + 3)) (xs ((i1) + 4)) (xs ((i1) + 5)) (xs ((i1) + 6)) (AR h a) hDR hv.1) (cwV 6 hts gL_law_X11_byelaw rfl rfl rfl (by decide +kernel) ⟨Nat.le_of_ble_eq_true rfl, Nat.le_of_ble_eq_true rfl⟩) ⟨pm_blind, va_recv hK3 hPR (ci := 10) (q0 := 0) rfl rfl, fun U hU hW => ⟨rfl, by rw [hU]; exact hPR, va_K.moved hW.alike hK3⟩⟩ rfl rfl hl.1 rfl (lv_room (Nat.le_of_ble_eq_true rfl)) dL_law_807 ⟨show 100 + 2 * k + 1 + 0 ≤ 600000 by omega, show 3000 + 12 * k + 6 + 0 ≤ 7302250 by omega⟩) hS (fun q _ h => hAR q h) (fun q h => hAR q h) (fun r u t H2 locs ht hvm hw hB hz2 hk2 hS => ?_)
  obtain ⟨hr9, hu9⟩ : r = (s_X11_byelaw F M (xs ((i1) + 1)) (xs ((i1) + 2)) (xs ((i1) + 3)) (xs ((i1) + 4)) (xs ((i1) + 5)) (xs ((i1) + 6))).1 ∧ u = (s_X11_byelaw F M (xs ((i1) + 1)) (xs ((i1) + 2)) (xs ((i1) + 3)) (xs ((i1) + 4)) (xs ((i1) + 5)) (xs ((i1) + 6))).2 := ⟨congrArg Prod.fst hw, congrArg Prod.snd hw⟩
  subst hr9; subst hu9
  obtain ⟨⟨hP2, -⟩, hD2⟩ := hB
  rw [ht] at hP2
  have hPX := wk hP1 (fun k q hk => hk2 q.1 (hP1 k q hk).lt (hD1.2 k q hk).2)
  have hDX := hD1; have hPR := hP2
  refine lv_icmp_eq (tgt := 1452) hx hb dL_law_810 (by decide) (fun _ => ?_) (fun c => absurd rfl c)
  refine W.widen (k := 100 + 2 * (k + 1)) (n := 3000 + 12 * (k + 1)) (by omega) (by omega) ?_
  exact KK _ _ _ ⟨(s_X11_byelaw F M (xs ((i1) + 1)) (xs ((i1) + 2)) (xs ((i1) + 3)) (xs ((i1) + 4)) (xs ((i1) + 5)) (xs ((i1) + 6))).2.1, (s_X11_byelaw F M (xs ((i1) + 1)) (xs ((i1) + 2)) (xs ((i1) + 3)) (xs ((i1) + 4)) (xs ((i1) + 5)) (xs ((i1) + 6))).2.2, _, _, _, k_byelaw (xs ((i1) + 1)) (xs ((i1) + 2)) (xs ((i1) + 3)) (xs ((i1) + 4)) (xs ((i1) + 5)) (xs ((i1) + 6)) hv.1 hv.2, hq9, hrl1, hPX, hDX, hPR, dR hD2, hS, hAR⟩ (lv_sub hl [0, 1, 2, 3] rfl)

set_option maxHeartbeats 4000000 in
set_option maxRecDepth 100000 in
theorem lc_candidate {p : Program} {l : Launch} {e : Env} {s : State} {m : MethodId} {below : List Frame} {meth : Method} {c : Code} {dC : Nat → ClassId} {dI : Nat → Nat → Nat} {cy : Nat → ClassId} {cI cB cZ : ClassId} {h : Nat} {a : Nat → Nat} {b L : Nat} {xs : Nat → Int32} (hL : L ≤ 3584) (C0 : lw_At p s m meth c b L xs) (hSt : lS s dC dI cy cI cB cZ) (k i1 : Nat) (hik : i1 = 7 * k) (hi7 : i1 + 7 ≤ L) (qx : Nat) (H : Heap) (locs : List Loc) (hv9 : lI s dC dI cy cI cB cZ h a qx H locs) (ls : Array Slot) (hl : lv_has ls 4 [(0, .ref b), (1, .ref qx), (2, .ref h), (3, .int (nI i1))])
    (KK : ∀ (H1 : Heap) (locs1 : List Loc) (ls1 : Array Slot), lI s dC dI cy cI cB cZ h a qx H1 locs1 → lv_has ls1 4 [(0, .ref b), (1, .ref qx), (2, .ref h), (3, .int (nI i1))] → W p l e room_1 s m #[Value.ref b] below meth c H1 locs1 (100 + 2 * (k + 1)) (3000 + 12 * (k + 1)) (lw_Z below #[Value.ref b] s) (F0 m 1452 ls1 [])) :
    W p l e room_1 s m #[Value.ref b] below meth c H locs (100 + 2 * k) (3000 + 12 * k) (lw_Z below #[Value.ref b] s) (F0 m 815 ls []) := by
  obtain ⟨hx, hb, hr, hml, hown, hts0, hX, hbl, hlocks, hgv⟩ := C0
  obtain ⟨hK, hN, hK3, hO4⟩ := hSt
  obtain ⟨F, M, Y, rl, ad, hv, hq, hrl, hPX, hDX, hPR, hDR, hS, hAR⟩ := hv9
  subst hq
  have hts : ∀ w ∈ wsL_law, w.before #[Value.ref b] s = true := fun w hw => hts0 w (wsL_law_in w hw)
  replace hown : s.vm.findClass RL = some m.cls := hown
  have hbA : ¬ A0 s b := Nat.not_le.mpr hbl
  have hAX : ∀ q, H.size ≤ q → AX s h a q := fun q hq => ⟨Nat.le_trans hS.1 hq, fun z => absurd (ar_lt hPR z) (Nat.not_lt.mpr hq)⟩
  refine lv_aload_n hx hb dL_law_815 rfl (lv_at hl 1 rfl) ?_
  refine lv_aload_n hx hb dL_law_816 rfl (lv_at hl 0 rfl) ?_
  refine lv_iload_n hx hb dL_law_817 rfl (lv_at hl 3 rfl) ?_
  refine lv_iconst (v := 1) hx hb dL_law_818 (by decide) ?_
  refine lv_iadd hx hb dL_law_819 ?_
  refine va_sld hx hb hX hbl hbA hS (nx_in (show (nI i1) + 1 = nI ((i1) + 1) from by show (nI i1) + nI 1 = _; simp only [nI_add, pk_mul]) (by omega) (by omega)) dL_law_820 ?_
  rw [nx_cl (show (nI i1) + 1 = nI ((i1) + 1) from by show (nI i1) + nI 1 = _; simp only [nI_add, pk_mul]) (by omega)]
  refine va_calli (va_runV (As := [.int (xs ((i1) + 1))]) (rest := []) ⟨hx, hb, hml, hown, hts⟩ (c_X10_candidate l dC dI rl ad cy F M Y (xs ((i1) + 1)) hrl hv.1 hv.2 (AX s h a) hDX) (cwV 1 hts gL_law_X10_candidate rfl rfl rfl (by decide +kernel) ⟨Nat.le_of_ble_eq_true rfl, Nat.le_of_ble_eq_true rfl⟩) ⟨pa_blind, rg_recv hK hPX ((hrl _).mpr (vd_9 (by decide))) (ci := 9) rfl en_9, fun U hU hW => ⟨rfl, by rw [hU]; exact hAX, by rw [hU]; exact hPX, va_K.moved hW.alike hK, nst_w hW hN⟩⟩ rfl rfl hl.1 rfl (lv_room (Nat.le_of_ble_eq_true rfl)) dL_law_821 ⟨show 100 + 2 * k + 1 ≤ 600000 by omega, show 3000 + 12 * k + 3 ≤ 7302250 by omega⟩) hS (fun q _ h => h.1) (fun q h => h.1) (fun r u t H1 locs ht hvm hw hB hz1 hk1 hS => ?_)
  subst hw
  obtain ⟨⟨⟨hP1, -, -⟩, hD1⟩, hrl1, hq9⟩ := hB
  rw [ht] at hP1
  replace hPR := wk hPR (fun k q hk => hk1 q.1 (hPR k q hk).lt (fun z => z.2 (hDR.2 k q hk)))
  refine lv_aload_n hx hb dL_law_824 rfl (lv_at hl 2 rfl) ?_
  refine lv_aload_n hx hb dL_law_825 rfl (lv_at hl 0 rfl) ?_
  refine lv_iload_n hx hb dL_law_826 rfl (lv_at hl 3 rfl) ?_
  refine lv_iconst (v := 1) hx hb dL_law_827 (by decide) ?_
  refine lv_iadd hx hb dL_law_828 ?_
  refine va_sld hx hb hX hbl hbA hS (nx_in (show (nI i1) + 1 = nI ((i1) + 1) from by show (nI i1) + nI 1 = _; simp only [nI_add, pk_mul]) (by omega) (by omega)) dL_law_829 ?_
  rw [nx_cl (show (nI i1) + 1 = nI ((i1) + 1) from by show (nI i1) + nI 1 = _; simp only [nI_add, pk_mul]) (by omega)]
  refine va_calli (va_runV (As := [.int (xs ((i1) + 1))]) (rest := [.int ((s_X11_candidate F M (xs ((i1) + 1))).1)]) ⟨hx, hb, hml, hown, hts⟩ (c_X11_candidate l dC dI h a cI cB cZ F M (xs ((i1) + 1)) (AR h a) hDR hv.1) (cwV 1 hts gL_law_X11_candidate rfl rfl rfl (by decide +kernel) ⟨Nat.le_of_ble_eq_true rfl, Nat.le_of_ble_eq_true rfl⟩) ⟨pm_blind, va_recv hK3 hPR (ci := 10) (q0 := 0) rfl rfl, fun U hU hW => ⟨rfl, by rw [hU]; exact hPR, va_K.moved hW.alike hK3⟩⟩ rfl rfl hl.1 rfl (lv_room (Nat.le_of_ble_eq_true rfl)) dL_law_830 ⟨show 100 + 2 * k + 1 + 0 ≤ 600000 by omega, show 3000 + 12 * k + 3 + 0 ≤ 7302250 by omega⟩) hS (fun q _ h => hAR q h) (fun q h => hAR q h) (fun r u t H2 locs ht hvm hw hB hz2 hk2 hS => ?_)
  obtain ⟨hr9, hu9⟩ : r = (s_X11_candidate F M (xs ((i1) + 1))).1 ∧ u = (s_X11_candidate F M (xs ((i1) + 1))).2 := ⟨congrArg Prod.fst hw, congrArg Prod.snd hw⟩
  subst hr9; subst hu9
  obtain ⟨⟨hP2, -⟩, hD2⟩ := hB
  rw [ht] at hP2
  have hPX := wk hP1 (fun k q hk => hk2 q.1 (hP1 k q hk).lt (hD1.2 k q hk).2)
  have hDX := hD1; have hPR := hP2
  refine lv_icmp_eq (tgt := 1452) hx hb dL_law_833 (by decide) (fun _ => ?_) (fun c => absurd rfl c)
  refine W.widen (k := 100 + 2 * (k + 1)) (n := 3000 + 12 * (k + 1)) (by omega) (by omega) ?_
  exact KK _ _ _ ⟨(s_X11_candidate F M (xs ((i1) + 1))).2.1, (s_X11_candidate F M (xs ((i1) + 1))).2.2, _, _, _, k_candidate (xs ((i1) + 1)) hv.1 hv.2, hq9, hrl1, hPX, hDX, hPR, dR hD2, hS, hAR⟩ (lv_sub hl [0, 1, 2, 3] rfl)
