set_option maxHeartbeats 4000000 in
set_option maxRecDepth 100000 in
theorem lc_asked {p : Program} {l : Launch} {e : Env} {s : State} {m : MethodId} {below : List Frame} {meth : Method} {c : Code} {dC : Nat → ClassId} {dI : Nat → Nat → Nat} {cy : Nat → ClassId} {cI cB cZ : ClassId} {h : Nat} {a : Nat → Nat} {b L : Nat} {xs : Nat → Int32} (hL : L ≤ 3584) (C0 : lw_At p s m meth c b L xs) (hSt : lS s dC dI cy cI cB cZ) (k i1 : Nat) (hik : i1 = 7 * k) (hi7 : i1 + 7 ≤ L) (qx : Nat) (H : Heap) (locs : List Loc) (hv9 : lI s dC dI cy cI cB cZ h a qx H locs) (ls : Array Slot) (hl : lv_has ls 4 [(0, .ref b), (1, .ref qx), (2, .ref h), (3, .int (nI i1))])
    (KK : ∀ (H1 : Heap) (locs1 : List Loc) (ls1 : Array Slot), lI s dC dI cy cI cB cZ h a qx H1 locs1 → lv_has ls1 4 [(0, .ref b), (1, .ref qx), (2, .ref h), (3, .int (nI i1))] → W p l e room_1 s m #[Value.ref b] below meth c H1 locs1 (100 + 2 * (k + 1)) (3000 + 12 * (k + 1)) (lw_Z below #[Value.ref b] s) (F0 m 1452 ls1 [])) :
    W p l e room_1 s m #[Value.ref b] below meth c H locs (100 + 2 * k) (3000 + 12 * k) (lw_Z below #[Value.ref b] s) (F0 m 1366 ls []) := by
  obtain ⟨hx, hb, hr, hml, hown, hts0, hX, hbl, hlocks, hgv⟩ := C0
  obtain ⟨hK, hN, hK3, hO4⟩ := hSt
  obtain ⟨F, M, Y, rl, ad, hv, hq, hrl, hPX, hDX, hPR, hDR, hS, hAR⟩ := hv9
  subst hq
  have hts : ∀ w ∈ wsL_law, w.before #[Value.ref b] s = true := fun w hw => hts0 w (wsL_law_in w hw)
  replace hown : s.vm.findClass RL = some m.cls := hown
  have hbA : ¬ A0 s b := Nat.not_le.mpr hbl
  refine lv_aload_n hx hb dL_law_1366 rfl (lv_at hl 1 rfl) ?_
  refine vp_callSi (W.runV (As := []) (rest := []) ⟨hx, hb, hml, hown, hts⟩ (c_X10_asked l dC dI rl ad cy F M Y  hrl hv.1 hv.2) (cwV 0 hts gL_law_X10_asked rfl rfl rfl (by decide +kernel) ⟨Nat.le_of_ble_eq_true rfl, Nat.le_of_ble_eq_true rfl⟩) ⟨pc_blind, rg_recv hK hPX ((hrl _).mpr (vd_9 (by decide))) (ci := 9) rfl en_9, fun U hU hW => ⟨rfl, by rw [hU]; exact hPX, va_K.moved hW.alike hK, nst_w hW hN⟩⟩ rfl rfl hl.1 rfl (lv_room (Nat.le_of_ble_eq_true rfl)) dL_law_1367 ⟨show 100 + 2 * k + 0 ≤ 600000 by omega, show 3000 + 12 * k + 0 ≤ 7302250 by omega⟩) (fun r hr9 => ?_)
  subst hr9
  refine lv_aload_n hx hb dL_law_1370 rfl (lv_at hl 2 rfl) ?_
  refine vp_callSi (W.runV (As := []) (rest := [.int (s_X11_asked F M)]) ⟨hx, hb, hml, hown, hts⟩ (c_X11_asked l dC dI h a cI cB cZ F M ) (cwV 0 hts gL_law_X11_asked rfl rfl rfl (by decide +kernel) ⟨Nat.le_of_ble_eq_true rfl, Nat.le_of_ble_eq_true rfl⟩) ⟨pm_blind, va_recv hK3 hPR (ci := 10) (q0 := 0) rfl rfl, fun U hU hW => ⟨rfl, by rw [hU]; exact hPR, va_K.moved hW.alike hK3⟩⟩ rfl rfl hl.1 rfl (lv_room (Nat.le_of_ble_eq_true rfl)) dL_law_1371 ⟨show 100 + 2 * k + 0 ≤ 600000 by omega, show 3000 + 12 * k + 0 ≤ 7302250 by omega⟩) (fun r hr9 => ?_)
  subst hr9
  refine lv_icmp_eq (tgt := 1452) hx hb dL_law_1374 (by decide) (fun _ => ?_) (fun c => absurd rfl c)
  refine W.widen (k := 100 + 2 * (k + 1)) (n := 3000 + 12 * (k + 1)) (by omega) (by omega) ?_
  exact KK H locs ls ⟨F, M, Y, rl, ad, hv, rfl, hrl, hPX, hDX, hPR, hDR, hS, hAR⟩ (lv_sub hl [0, 1, 2, 3] rfl)

set_option maxHeartbeats 4000000 in
set_option maxRecDepth 100000 in
theorem lc_count {p : Program} {l : Launch} {e : Env} {s : State} {m : MethodId} {below : List Frame} {meth : Method} {c : Code} {dC : Nat → ClassId} {dI : Nat → Nat → Nat} {cy : Nat → ClassId} {cI cB cZ : ClassId} {h : Nat} {a : Nat → Nat} {b L : Nat} {xs : Nat → Int32} (hL : L ≤ 3584) (C0 : lw_At p s m meth c b L xs) (hSt : lS s dC dI cy cI cB cZ) (k i1 : Nat) (hik : i1 = 7 * k) (hi7 : i1 + 7 ≤ L) (qx : Nat) (H : Heap) (locs : List Loc) (hv9 : lI s dC dI cy cI cB cZ h a qx H locs) (ls : Array Slot) (hl : lv_has ls 4 [(0, .ref b), (1, .ref qx), (2, .ref h), (3, .int (nI i1))])
    (KK : ∀ (H1 : Heap) (locs1 : List Loc) (ls1 : Array Slot), lI s dC dI cy cI cB cZ h a qx H1 locs1 → lv_has ls1 4 [(0, .ref b), (1, .ref qx), (2, .ref h), (3, .int (nI i1))] → W p l e room_1 s m #[Value.ref b] below meth c H1 locs1 (100 + 2 * (k + 1)) (3000 + 12 * (k + 1)) (lw_Z below #[Value.ref b] s) (F0 m 1452 ls1 [])) :
    W p l e room_1 s m #[Value.ref b] below meth c H locs (100 + 2 * k) (3000 + 12 * k) (lw_Z below #[Value.ref b] s) (F0 m 1379 ls []) := by
  obtain ⟨hx, hb, hr, hml, hown, hts0, hX, hbl, hlocks, hgv⟩ := C0
  obtain ⟨hK, hN, hK3, hO4⟩ := hSt
  obtain ⟨F, M, Y, rl, ad, hv, hq, hrl, hPX, hDX, hPR, hDR, hS, hAR⟩ := hv9
  subst hq
  have hts : ∀ w ∈ wsL_law, w.before #[Value.ref b] s = true := fun w hw => hts0 w (wsL_law_in w hw)
  replace hown : s.vm.findClass RL = some m.cls := hown
  have hbA : ¬ A0 s b := Nat.not_le.mpr hbl
  refine lv_aload_n hx hb dL_law_1379 rfl (lv_at hl 1 rfl) ?_
  refine lv_aload_n hx hb dL_law_1380 rfl (lv_at hl 0 rfl) ?_
  refine lv_iload_n hx hb dL_law_1381 rfl (lv_at hl 3 rfl) ?_
  refine lv_iconst (v := 1) hx hb dL_law_1382 (by decide) ?_
  refine lv_iadd hx hb dL_law_1383 ?_
  refine va_sld hx hb hX hbl hbA hS (nx_in (show (nI i1) + 1 = nI ((i1) + 1) from by show (nI i1) + nI 1 = _; simp only [nI_add, pk_mul]) (by omega) (by omega)) dL_law_1384 ?_
  rw [nx_cl (show (nI i1) + 1 = nI ((i1) + 1) from by show (nI i1) + nI 1 = _; simp only [nI_add, pk_mul]) (by omega)]
  refine vp_callSi (W.runV (As := [.int (xs ((i1) + 1))]) (rest := []) ⟨hx, hb, hml, hown, hts⟩ (c_X10_count l dC dI rl ad cy F M Y (xs ((i1) + 1)) hrl hv.1 hv.2) (cwV 1 hts gL_law_X10_count rfl rfl rfl (by decide +kernel) ⟨Nat.le_of_ble_eq_true rfl, Nat.le_of_ble_eq_true rfl⟩) ⟨pc_blind, rg_recv hK hPX ((hrl _).mpr (vd_9 (by decide))) (ci := 9) rfl en_9, fun U hU hW => ⟨rfl, by rw [hU]; exact hPX, va_K.moved hW.alike hK, nst_w hW hN⟩⟩ rfl rfl hl.1 rfl (lv_room (Nat.le_of_ble_eq_true rfl)) dL_law_1385 ⟨show 100 + 2 * k + 0 ≤ 600000 by omega, show 3000 + 12 * k + 0 ≤ 7302250 by omega⟩) (fun r hr9 => ?_)
  subst hr9
  refine lv_aload_n hx hb dL_law_1388 rfl (lv_at hl 2 rfl) ?_
  refine lv_aload_n hx hb dL_law_1389 rfl (lv_at hl 0 rfl) ?_
  refine lv_iload_n hx hb dL_law_1390 rfl (lv_at hl 3 rfl) ?_
  refine lv_iconst (v := 1) hx hb dL_law_1391 (by decide) ?_
  refine lv_iadd hx hb dL_law_1392 ?_
  refine va_sld hx hb hX hbl hbA hS (nx_in (show (nI i1) + 1 = nI ((i1) + 1) from by show (nI i1) + nI 1 = _; simp only [nI_add, pk_mul]) (by omega) (by omega)) dL_law_1393 ?_
  rw [nx_cl (show (nI i1) + 1 = nI ((i1) + 1) from by show (nI i1) + nI 1 = _; simp only [nI_add, pk_mul]) (by omega)]
  refine vp_callSi (W.runV (As := [.int (xs ((i1) + 1))]) (rest := [.int (s_X11_count F M (xs ((i1) + 1)))]) ⟨hx, hb, hml, hown, hts⟩ (c_X11_count l dC dI h a cI cB cZ F M (xs ((i1) + 1))) (cwV 1 hts gL_law_X11_count rfl rfl rfl (by decide +kernel) ⟨Nat.le_of_ble_eq_true rfl, Nat.le_of_ble_eq_true rfl⟩) ⟨pm_blind, va_recv hK3 hPR (ci := 10) (q0 := 0) rfl rfl, fun U hU hW => ⟨rfl, by rw [hU]; exact hPR, va_K.moved hW.alike hK3⟩⟩ rfl rfl hl.1 rfl (lv_room (Nat.le_of_ble_eq_true rfl)) dL_law_1394 ⟨show 100 + 2 * k + 0 ≤ 600000 by omega, show 3000 + 12 * k + 0 ≤ 7302250 by omega⟩) (fun r hr9 => ?_)
  subst hr9
  refine lv_icmp_eq (tgt := 1452) hx hb dL_law_1397 (by decide) (fun _ => ?_) (fun c => absurd rfl c)
  refine W.widen (k := 100 + 2 * (k + 1)) (n := 3000 + 12 * (k + 1)) (by omega) (by omega) ?_
  exact KK H locs ls ⟨F, M, Y, rl, ad, hv, rfl, hrl, hPX, hDX, hPR, hDR, hS, hAR⟩ (lv_sub hl [0, 1, 2, 3] rfl)

set_option maxHeartbeats 4000000 in
set_option maxRecDepth 100000 in
theorem lc_finding {p : Program} {l : Launch} {e : Env} {s : State} {m : MethodId} {below : List Frame} {meth : Method} {c : Code} {dC : Nat → ClassId} {dI : Nat → Nat → Nat} {cy : Nat → ClassId} {cI cB cZ : ClassId} {h : Nat} {a : Nat → Nat} {b L : Nat} {xs : Nat → Int32} (hL : L ≤ 3584) (C0 : lw_At p s m meth c b L xs) (hSt : lS s dC dI cy cI cB cZ) (k i1 : Nat) (hik : i1 = 7 * k) (hi7 : i1 + 7 ≤ L) (qx : Nat) (H : Heap) (locs : List Loc) (hv9 : lI s dC dI cy cI cB cZ h a qx H locs) (ls : Array Slot) (hl : lv_has ls 4 [(0, .ref b), (1, .ref qx), (2, .ref h), (3, .int (nI i1))])
    (KK : ∀ (H1 : Heap) (locs1 : List Loc) (ls1 : Array Slot), lI s dC dI cy cI cB cZ h a qx H1 locs1 → lv_has ls1 4 [(0, .ref b), (1, .ref qx), (2, .ref h), (3, .int (nI i1))] → W p l e room_1 s m #[Value.ref b] below meth c H1 locs1 (100 + 2 * (k + 1)) (3000 + 12 * (k + 1)) (lw_Z below #[Value.ref b] s) (F0 m 1452 ls1 [])) :
    W p l e room_1 s m #[Value.ref b] below meth c H locs (100 + 2 * k) (3000 + 12 * k) (lw_Z below #[Value.ref b] s) (F0 m 1402 ls []) := by
  obtain ⟨hx, hb, hr, hml, hown, hts0, hX, hbl, hlocks, hgv⟩ := C0
  obtain ⟨hK, hN, hK3, hO4⟩ := hSt
  obtain ⟨F, M, Y, rl, ad, hv, hq, hrl, hPX, hDX, hPR, hDR, hS, hAR⟩ := hv9
  subst hq
  have hts : ∀ w ∈ wsL_law, w.before #[Value.ref b] s = true := fun w hw => hts0 w (wsL_law_in w hw)
  replace hown : s.vm.findClass RL = some m.cls := hown
  have hbA : ¬ A0 s b := Nat.not_le.mpr hbl
  refine lv_aload_n hx hb dL_law_1402 rfl (lv_at hl 1 rfl) ?_
  refine vp_callSi (W.runV (As := []) (rest := []) ⟨hx, hb, hml, hown, hts⟩ (c_X10_finding l dC dI rl ad cy F M Y  hrl hv.1 hv.2) (cwV 0 hts gL_law_X10_finding rfl rfl rfl (by decide +kernel) ⟨Nat.le_of_ble_eq_true rfl, Nat.le_of_ble_eq_true rfl⟩) ⟨pc_blind, rg_recv hK hPX ((hrl _).mpr (vd_9 (by decide))) (ci := 9) rfl en_9, fun U hU hW => ⟨rfl, by rw [hU]; exact hPX, va_K.moved hW.alike hK, nst_w hW hN⟩⟩ rfl rfl hl.1 rfl (lv_room (Nat.le_of_ble_eq_true rfl)) dL_law_1403 ⟨show 100 + 2 * k + 0 ≤ 600000 by omega, show 3000 + 12 * k + 0 ≤ 7302250 by omega⟩) (fun r hr9 => ?_)
  subst hr9
  refine lv_aload_n hx hb dL_law_1406 rfl (lv_at hl 2 rfl) ?_
  refine vp_callSi (W.runV (As := []) (rest := [.int (s_X11_finding F M)]) ⟨hx, hb, hml, hown, hts⟩ (c_X11_finding l dC dI h a cI cB cZ F M ) (cwV 0 hts gL_law_X11_finding rfl rfl rfl (by decide +kernel) ⟨Nat.le_of_ble_eq_true rfl, Nat.le_of_ble_eq_true rfl⟩) ⟨pm_blind, va_recv hK3 hPR (ci := 10) (q0 := 0) rfl rfl, fun U hU hW => ⟨rfl, by rw [hU]; exact hPR, va_K.moved hW.alike hK3⟩⟩ rfl rfl hl.1 rfl (lv_room (Nat.le_of_ble_eq_true rfl)) dL_law_1407 ⟨show 100 + 2 * k + 0 ≤ 600000 by omega, show 3000 + 12 * k + 0 ≤ 7302250 by omega⟩) (fun r hr9 => ?_)
  subst hr9
  refine lv_icmp_eq (tgt := 1452) hx hb dL_law_1410 (by decide) (fun _ => ?_) (fun c => absurd rfl c)
  refine W.widen (k := 100 + 2 * (k + 1)) (n := 3000 + 12 * (k + 1)) (by omega) (by omega) ?_
  exact KK H locs ls ⟨F, M, Y, rl, ad, hv, rfl, hrl, hPX, hDX, hPR, hDR, hS, hAR⟩ (lv_sub hl [0, 1, 2, 3] rfl)

set_option maxHeartbeats 4000000 in
set_option maxRecDepth 100000 in
theorem lc_findings {p : Program} {l : Launch} {e : Env} {s : State} {m : MethodId} {below : List Frame} {meth : Method} {c : Code} {dC : Nat → ClassId} {dI : Nat → Nat → Nat} {cy : Nat → ClassId} {cI cB cZ : ClassId} {h : Nat} {a : Nat → Nat} {b L : Nat} {xs : Nat → Int32} (hL : L ≤ 3584) (C0 : lw_At p s m meth c b L xs) (hSt : lS s dC dI cy cI cB cZ) (k i1 : Nat) (hik : i1 = 7 * k) (hi7 : i1 + 7 ≤ L) (qx : Nat) (H : Heap) (locs : List Loc) (hv9 : lI s dC dI cy cI cB cZ h a qx H locs) (ls : Array Slot) (hl : lv_has ls 4 [(0, .ref b), (1, .ref qx), (2, .ref h), (3, .int (nI i1))])
    (KK : ∀ (H1 : Heap) (locs1 : List Loc) (ls1 : Array Slot), lI s dC dI cy cI cB cZ h a qx H1 locs1 → lv_has ls1 4 [(0, .ref b), (1, .ref qx), (2, .ref h), (3, .int (nI i1))] → W p l e room_1 s m #[Value.ref b] below meth c H1 locs1 (100 + 2 * (k + 1)) (3000 + 12 * (k + 1)) (lw_Z below #[Value.ref b] s) (F0 m 1452 ls1 [])) :
    W p l e room_1 s m #[Value.ref b] below meth c H locs (100 + 2 * k) (3000 + 12 * k) (lw_Z below #[Value.ref b] s) (F0 m 1415 ls []) := by
  obtain ⟨hx, hb, hr, hml, hown, hts0, hX, hbl, hlocks, hgv⟩ := C0
  obtain ⟨hK, hN, hK3, hO4⟩ := hSt
  obtain ⟨F, M, Y, rl, ad, hv, hq, hrl, hPX, hDX, hPR, hDR, hS, hAR⟩ := hv9
  subst hq
  have hts : ∀ w ∈ wsL_law, w.before #[Value.ref b] s = true := fun w hw => hts0 w (wsL_law_in w hw)
  replace hown : s.vm.findClass RL = some m.cls := hown
  have hbA : ¬ A0 s b := Nat.not_le.mpr hbl
  refine lv_aload_n hx hb dL_law_1415 rfl (lv_at hl 1 rfl) ?_
  refine lv_aload_n hx hb dL_law_1416 rfl (lv_at hl 0 rfl) ?_
  refine lv_iload_n hx hb dL_law_1417 rfl (lv_at hl 3 rfl) ?_
  refine lv_iconst (v := 1) hx hb dL_law_1418 (by decide) ?_
  refine lv_iadd hx hb dL_law_1419 ?_
  refine va_sld hx hb hX hbl hbA hS (nx_in (show (nI i1) + 1 = nI ((i1) + 1) from by show (nI i1) + nI 1 = _; simp only [nI_add, pk_mul]) (by omega) (by omega)) dL_law_1420 ?_
  rw [nx_cl (show (nI i1) + 1 = nI ((i1) + 1) from by show (nI i1) + nI 1 = _; simp only [nI_add, pk_mul]) (by omega)]
  refine vp_callSi (W.runV (As := [.int (xs ((i1) + 1))]) (rest := []) ⟨hx, hb, hml, hown, hts⟩ (c_X10_findings l dC dI rl ad cy F M Y (xs ((i1) + 1)) hrl hv.1 hv.2) (cwV 1 hts gL_law_X10_findings rfl rfl rfl (by decide +kernel) ⟨Nat.le_of_ble_eq_true rfl, Nat.le_of_ble_eq_true rfl⟩) ⟨pc_blind, rg_recv hK hPX ((hrl _).mpr (vd_9 (by decide))) (ci := 9) rfl en_9, fun U hU hW => ⟨rfl, by rw [hU]; exact hPX, va_K.moved hW.alike hK, nst_w hW hN⟩⟩ rfl rfl hl.1 rfl (lv_room (Nat.le_of_ble_eq_true rfl)) dL_law_1421 ⟨show 100 + 2 * k + 0 ≤ 600000 by omega, show 3000 + 12 * k + 0 ≤ 7302250 by omega⟩) (fun r hr9 => ?_)
  subst hr9
  refine lv_aload_n hx hb dL_law_1424 rfl (lv_at hl 2 rfl) ?_
  refine lv_aload_n hx hb dL_law_1425 rfl (lv_at hl 0 rfl) ?_
  refine lv_iload_n hx hb dL_law_1426 rfl (lv_at hl 3 rfl) ?_
  refine lv_iconst (v := 1) hx hb dL_law_1427 (by decide) ?_
  refine lv_iadd hx hb dL_law_1428 ?_
  refine va_sld hx hb hX hbl hbA hS (nx_in (show (nI i1) + 1 = nI ((i1) + 1) from by show (nI i1) + nI 1 = _; simp only [nI_add, pk_mul]) (by omega) (by omega)) dL_law_1429 ?_
  rw [nx_cl (show (nI i1) + 1 = nI ((i1) + 1) from by show (nI i1) + nI 1 = _; simp only [nI_add, pk_mul]) (by omega)]
  refine vp_callSi (W.runV (As := [.int (xs ((i1) + 1))]) (rest := [.int (s_X11_findings F M (xs ((i1) + 1)))]) ⟨hx, hb, hml, hown, hts⟩ (c_X11_findings l dC dI h a cI cB cZ F M (xs ((i1) + 1))) (cwV 1 hts gL_law_X11_findings rfl rfl rfl (by decide +kernel) ⟨Nat.le_of_ble_eq_true rfl, Nat.le_of_ble_eq_true rfl⟩) ⟨pm_blind, va_recv hK3 hPR (ci := 10) (q0 := 0) rfl rfl, fun U hU hW => ⟨rfl, by rw [hU]; exact hPR, va_K.moved hW.alike hK3⟩⟩ rfl rfl hl.1 rfl (lv_room (Nat.le_of_ble_eq_true rfl)) dL_law_1430 ⟨show 100 + 2 * k + 0 ≤ 600000 by omega, show 3000 + 12 * k + 0 ≤ 7302250 by omega⟩) (fun r hr9 => ?_)
  subst hr9
  refine lv_icmp_eq (tgt := 1452) hx hb dL_law_1433 (by decide) (fun _ => ?_) (fun c => absurd rfl c)
  refine W.widen (k := 100 + 2 * (k + 1)) (n := 3000 + 12 * (k + 1)) (by omega) (by omega) ?_
  exact KK H locs ls ⟨F, M, Y, rl, ad, hv, rfl, hrl, hPX, hDX, hPR, hDR, hS, hAR⟩ (lv_sub hl [0, 1, 2, 3] rfl)

set_option maxHeartbeats 4000000 in
set_option maxRecDepth 100000 in
theorem lc_digest {p : Program} {l : Launch} {e : Env} {s : State} {m : MethodId} {below : List Frame} {meth : Method} {c : Code} {dC : Nat → ClassId} {dI : Nat → Nat → Nat} {cy : Nat → ClassId} {cI cB cZ : ClassId} {h : Nat} {a : Nat → Nat} {b L : Nat} {xs : Nat → Int32} (hL : L ≤ 3584) (C0 : lw_At p s m meth c b L xs) (hSt : lS s dC dI cy cI cB cZ) (k i1 : Nat) (hik : i1 = 7 * k) (hi7 : i1 + 7 ≤ L) (qx : Nat) (H : Heap) (locs : List Loc) (hv9 : lI s dC dI cy cI cB cZ h a qx H locs) (ls : Array Slot) (hl : lv_has ls 4 [(0, .ref b), (1, .ref qx), (2, .ref h), (3, .int (nI i1))])
    (KK : ∀ (H1 : Heap) (locs1 : List Loc) (ls1 : Array Slot), lI s dC dI cy cI cB cZ h a qx H1 locs1 → lv_has ls1 4 [(0, .ref b), (1, .ref qx), (2, .ref h), (3, .int (nI i1))] → W p l e room_1 s m #[Value.ref b] below meth c H1 locs1 (100 + 2 * (k + 1)) (3000 + 12 * (k + 1)) (lw_Z below #[Value.ref b] s) (F0 m 1452 ls1 [])) :
    W p l e room_1 s m #[Value.ref b] below meth c H locs (100 + 2 * k) (3000 + 12 * k) (lw_Z below #[Value.ref b] s) (F0 m 1438 ls []) := by
  obtain ⟨hx, hb, hr, hml, hown, hts0, hX, hbl, hlocks, hgv⟩ := C0
  obtain ⟨hK, hN, hK3, hO4⟩ := hSt
  obtain ⟨F, M, Y, rl, ad, hv, hq, hrl, hPX, hDX, hPR, hDR, hS, hAR⟩ := hv9
  subst hq
  have hts : ∀ w ∈ wsL_law, w.before #[Value.ref b] s = true := fun w hw => hts0 w (wsL_law_in w hw)
  replace hown : s.vm.findClass RL = some m.cls := hown
  have hbA : ¬ A0 s b := Nat.not_le.mpr hbl
  refine lv_aload_n hx hb dL_law_1438 rfl (lv_at hl 1 rfl) ?_
  refine vp_callSl (W.runV (As := []) (rest := []) ⟨hx, hb, hml, hown, hts⟩ (c_X10_digest l dC dI rl ad cy F M Y  hrl hv.1 hv.2) (cwV 0 hts gL_law_X10_digest rfl rfl rfl (by decide +kernel) ⟨Nat.le_of_ble_eq_true rfl, Nat.le_of_ble_eq_true rfl⟩) ⟨pc_blind, rg_recv hK hPX ((hrl _).mpr (vd_9 (by decide))) (ci := 9) rfl en_9, fun U hU hW => ⟨rfl, by rw [hU]; exact hPX, va_K.moved hW.alike hK, nst_w hW hN⟩⟩ rfl rfl hl.1 rfl (lv_room (Nat.le_of_ble_eq_true rfl)) dL_law_1439 ⟨show 100 + 2 * k + 0 ≤ 600000 by omega, show 3000 + 12 * k + 0 ≤ 7302250 by omega⟩) (fun r hr9 => ?_)
  subst hr9
  refine lv_aload_n hx hb dL_law_1442 rfl (lv_at hl 2 rfl) ?_
  refine vp_callSl (W.runV (As := []) (rest := [.long (s_X11_digest F M)]) ⟨hx, hb, hml, hown, hts⟩ (c_X11_digest l dC dI h a cI cB cZ F M  hv.1) (cwV 0 hts gL_law_X11_digest rfl rfl rfl (by decide +kernel) ⟨Nat.le_of_ble_eq_true rfl, Nat.le_of_ble_eq_true rfl⟩) ⟨pm_blind, va_recv hK3 hPR (ci := 10) (q0 := 0) rfl rfl, fun U hU hW => ⟨rfl, by rw [hU]; exact hPR, va_K.moved hW.alike hK3⟩⟩ rfl rfl hl.1 rfl (lv_room (Nat.le_of_ble_eq_true rfl)) dL_law_1443 ⟨show 100 + 2 * k + 0 ≤ 600000 by omega, show 3000 + 12 * k + 0 ≤ 7302250 by omega⟩) (fun r hr9 => ?_)
  subst hr9
  refine W.lcmp hx hb dL_law_1446 ?_
  refine lv_if_eq (tgt := 1452) hx hb dL_law_1447 (by decide) (fun _ => ?_) (fun c => absurd (lg_cmp_self _) c)
  refine W.widen (k := 100 + 2 * (k + 1)) (n := 3000 + 12 * (k + 1)) (by omega) (by omega) ?_
  exact KK H locs ls ⟨F, M, Y, rl, ad, hv, rfl, hrl, hPX, hDX, hPR, hDR, hS, hAR⟩ (lv_sub hl [0, 1, 2, 3] rfl)
