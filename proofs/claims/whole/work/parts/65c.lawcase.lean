set_option maxHeartbeats 4000000 in
set_option maxRecDepth 100000 in
theorem lc_propose {p : Program} {l : Launch} {e : Env} {s : State} {m : MethodId} {below : List Frame} {meth : Method} {c : Code} {dC : Nat → ClassId} {dI : Nat → Nat → Nat} {cy : Nat → ClassId} {cI cB cZ : ClassId} {h : Nat} {a : Nat → Nat} {b L : Nat} {xs : Nat → Int32} (hL : L ≤ 3584) (C0 : lw_At p s m meth c b L xs) (hSt : lS s dC dI cy cI cB cZ) (k i1 : Nat) (hik : i1 = 7 * k) (hi7 : i1 + 7 ≤ L) (qx : Nat) (H : Heap) (locs : List Loc) (hv9 : lI s dC dI cy cI cB cZ h a qx H locs) (ls : Array Slot) (hl : lv_has ls 4 [(0, .ref b), (1, .ref qx), (2, .ref h), (3, .int (nI i1))])
    (KK : ∀ (H1 : Heap) (locs1 : List Loc) (ls1 : Array Slot), lI s dC dI cy cI cB cZ h a qx H1 locs1 → lv_has ls1 4 [(0, .ref b), (1, .ref qx), (2, .ref h), (3, .int (nI i1))] → W p l e room_1 s m #[Value.ref b] below meth c H1 locs1 (100 + 2 * (k + 1)) (3000 + 12 * (k + 1)) (lw_Z below #[Value.ref b] s) (F0 m 1452 ls1 [])) :
    W p l e room_1 s m #[Value.ref b] below meth c H locs (100 + 2 * k) (3000 + 12 * k) (lw_Z below #[Value.ref b] s) (F0 m 838 ls []) := by
  obtain ⟨hx, hb, hr, hml, hown, hts0, hX, hbl, hlocks, hgv⟩ := C0
  obtain ⟨hK, hN, hK3, hO4⟩ := hSt
  obtain ⟨F, M, Y, rl, ad, hv, hq, hrl, hPX, hDX, hPR, hDR, hS, hAR⟩ := hv9
  subst hq
  have hts : ∀ w ∈ wsL_law, w.before #[Value.ref b] s = true := fun w hw => hts0 w (wsL_law_in w hw)
  replace hown : s.vm.findClass RL = some m.cls := hown
  have hbA : ¬ A0 s b := Nat.not_le.mpr hbl
  refine lv_aload_n hx hb dL_law_838 rfl (lv_at hl 1 rfl) ?_
  refine lv_aload_n hx hb dL_law_839 rfl (lv_at hl 0 rfl) ?_
  refine lv_iload_n hx hb dL_law_840 rfl (lv_at hl 3 rfl) ?_
  refine lv_iconst (v := 1) hx hb dL_law_841 (by decide) ?_
  refine lv_iadd hx hb dL_law_842 ?_
  refine va_sld hx hb hX hbl hbA hS (nx_in (show (nI i1) + 1 = nI ((i1) + 1) from by show (nI i1) + nI 1 = _; simp only [nI_add, pk_mul]) (by omega) (by omega)) dL_law_843 ?_
  rw [nx_cl (show (nI i1) + 1 = nI ((i1) + 1) from by show (nI i1) + nI 1 = _; simp only [nI_add, pk_mul]) (by omega)]
  refine lv_aload_n hx hb dL_law_844 rfl (lv_at hl 0 rfl) ?_
  refine lv_iload_n hx hb dL_law_845 rfl (lv_at hl 3 rfl) ?_
  refine lv_iconst (v := 2) hx hb dL_law_846 (by decide) ?_
  refine lv_iadd hx hb dL_law_847 ?_
  refine va_sld hx hb hX hbl hbA hS (nx_in (show (nI i1) + 2 = nI ((i1) + 2) from by show (nI i1) + nI 2 = _; simp only [nI_add, pk_mul]) (by omega) (by omega)) dL_law_848 ?_
  rw [nx_cl (show (nI i1) + 2 = nI ((i1) + 2) from by show (nI i1) + nI 2 = _; simp only [nI_add, pk_mul]) (by omega)]
  refine va_calli (va_runV (As := [.int (xs ((i1) + 1)), .int (xs ((i1) + 2))]) (rest := []) ⟨hx, hb, hml, hown, hts⟩ (c_X10_propose l dC dI rl ad cy F M Y (xs ((i1) + 1)) (xs ((i1) + 2)) hrl hv.1 hv.2 (AX s h a) hDX) (cwV 2 hts gL_law_X10_propose rfl rfl rfl (by decide +kernel) ⟨Nat.le_of_ble_eq_true rfl, Nat.le_of_ble_eq_true rfl⟩) ⟨pc_blind, rg_recv hK hPX ((hrl _).mpr (vd_9 (by decide))) (ci := 9) rfl en_9, fun U hU hW => ⟨rfl, by rw [hU]; exact hPX, va_K.moved hW.alike hK, nst_w hW hN⟩⟩ rfl rfl hl.1 rfl (lv_room (Nat.le_of_ble_eq_true rfl)) dL_law_849 ⟨show 100 + 2 * k + 0 ≤ 600000 by omega, show 3000 + 12 * k + 0 ≤ 7302250 by omega⟩) hS (fun q _ h => h.1) (fun q h => h.1) (fun r u t H1 locs ht hvm hw hB hz1 hk1 hS => ?_)
  subst hw
  obtain ⟨⟨hP1, -, -⟩, hD1⟩ := hB
  rw [ht] at hP1
  replace hPR := wk hPR (fun k q hk => hk1 q.1 (hPR k q hk).lt (fun z => z.2 (hDR.2 k q hk)))
  refine lv_aload_n hx hb dL_law_852 rfl (lv_at hl 2 rfl) ?_
  refine lv_aload_n hx hb dL_law_853 rfl (lv_at hl 0 rfl) ?_
  refine lv_iload_n hx hb dL_law_854 rfl (lv_at hl 3 rfl) ?_
  refine lv_iconst (v := 1) hx hb dL_law_855 (by decide) ?_
  refine lv_iadd hx hb dL_law_856 ?_
  refine va_sld hx hb hX hbl hbA hS (nx_in (show (nI i1) + 1 = nI ((i1) + 1) from by show (nI i1) + nI 1 = _; simp only [nI_add, pk_mul]) (by omega) (by omega)) dL_law_857 ?_
  rw [nx_cl (show (nI i1) + 1 = nI ((i1) + 1) from by show (nI i1) + nI 1 = _; simp only [nI_add, pk_mul]) (by omega)]
  refine lv_aload_n hx hb dL_law_858 rfl (lv_at hl 0 rfl) ?_
  refine lv_iload_n hx hb dL_law_859 rfl (lv_at hl 3 rfl) ?_
  refine lv_iconst (v := 2) hx hb dL_law_860 (by decide) ?_
  refine lv_iadd hx hb dL_law_861 ?_
  refine va_sld hx hb hX hbl hbA hS (nx_in (show (nI i1) + 2 = nI ((i1) + 2) from by show (nI i1) + nI 2 = _; simp only [nI_add, pk_mul]) (by omega) (by omega)) dL_law_862 ?_
  rw [nx_cl (show (nI i1) + 2 = nI ((i1) + 2) from by show (nI i1) + nI 2 = _; simp only [nI_add, pk_mul]) (by omega)]
  refine va_calli (va_runV (As := [.int (xs ((i1) + 1)), .int (xs ((i1) + 2))]) (rest := [.int ((s_X11_propose F M (xs ((i1) + 1)) (xs ((i1) + 2))).1)]) ⟨hx, hb, hml, hown, hts⟩ (c_X11_propose l dC dI h a cI cB cZ F M (xs ((i1) + 1)) (xs ((i1) + 2)) (AR h a) hDR hv.1) (cwV 2 hts gL_law_X11_propose rfl rfl rfl (by decide +kernel) ⟨Nat.le_of_ble_eq_true rfl, Nat.le_of_ble_eq_true rfl⟩) ⟨pm_blind, va_recv hK3 hPR (ci := 10) (q0 := 0) rfl rfl, fun U hU hW => ⟨rfl, by rw [hU]; exact hPR, va_K.moved hW.alike hK3⟩⟩ rfl rfl hl.1 rfl (lv_room (Nat.le_of_ble_eq_true rfl)) dL_law_863 ⟨show 100 + 2 * k + 0 + 0 ≤ 600000 by omega, show 3000 + 12 * k + 0 + 0 ≤ 7302250 by omega⟩) hS (fun q _ h => hAR q h) (fun q h => hAR q h) (fun r u t H2 locs ht hvm hw hB hz2 hk2 hS => ?_)
  obtain ⟨hr9, hu9⟩ : r = (s_X11_propose F M (xs ((i1) + 1)) (xs ((i1) + 2))).1 ∧ u = (s_X11_propose F M (xs ((i1) + 1)) (xs ((i1) + 2))).2 := ⟨congrArg Prod.fst hw, congrArg Prod.snd hw⟩
  subst hr9; subst hu9
  obtain ⟨⟨hP2, -⟩, hD2⟩ := hB
  rw [ht] at hP2
  have hPX := wk hP1 (fun k q hk => hk2 q.1 (hP1 k q hk).lt (hD1.2 k q hk).2)
  have hDX := hD1; have hPR := hP2
  refine lv_icmp_eq (tgt := 1452) hx hb dL_law_866 (by decide) (fun _ => ?_) (fun c => absurd rfl c)
  refine W.widen (k := 100 + 2 * (k + 1)) (n := 3000 + 12 * (k + 1)) (by omega) (by omega) ?_
  exact KK _ _ _ ⟨(s_X11_propose F M (xs ((i1) + 1)) (xs ((i1) + 2))).2.1, (s_X11_propose F M (xs ((i1) + 1)) (xs ((i1) + 2))).2.2, _, rl, ad, k_propose (xs ((i1) + 1)) (xs ((i1) + 2)) hv.1 hv.2, rfl, fun r => (hrl r).trans (v_propose F M (xs ((i1) + 1)) (xs ((i1) + 2)) r).symm, hPX, hDX, hPR, dR hD2, hS, hAR⟩ (lv_sub hl [0, 1, 2, 3] rfl)

set_option maxHeartbeats 4000000 in
set_option maxRecDepth 100000 in
theorem lc_withdraw {p : Program} {l : Launch} {e : Env} {s : State} {m : MethodId} {below : List Frame} {meth : Method} {c : Code} {dC : Nat → ClassId} {dI : Nat → Nat → Nat} {cy : Nat → ClassId} {cI cB cZ : ClassId} {h : Nat} {a : Nat → Nat} {b L : Nat} {xs : Nat → Int32} (hL : L ≤ 3584) (C0 : lw_At p s m meth c b L xs) (hSt : lS s dC dI cy cI cB cZ) (k i1 : Nat) (hik : i1 = 7 * k) (hi7 : i1 + 7 ≤ L) (qx : Nat) (H : Heap) (locs : List Loc) (hv9 : lI s dC dI cy cI cB cZ h a qx H locs) (ls : Array Slot) (hl : lv_has ls 4 [(0, .ref b), (1, .ref qx), (2, .ref h), (3, .int (nI i1))])
    (KK : ∀ (H1 : Heap) (locs1 : List Loc) (ls1 : Array Slot), lI s dC dI cy cI cB cZ h a qx H1 locs1 → lv_has ls1 4 [(0, .ref b), (1, .ref qx), (2, .ref h), (3, .int (nI i1))] → W p l e room_1 s m #[Value.ref b] below meth c H1 locs1 (100 + 2 * (k + 1)) (3000 + 12 * (k + 1)) (lw_Z below #[Value.ref b] s) (F0 m 1452 ls1 [])) :
    W p l e room_1 s m #[Value.ref b] below meth c H locs (100 + 2 * k) (3000 + 12 * k) (lw_Z below #[Value.ref b] s) (F0 m 871 ls []) := by
  obtain ⟨hx, hb, hr, hml, hown, hts0, hX, hbl, hlocks, hgv⟩ := C0
  obtain ⟨hK, hN, hK3, hO4⟩ := hSt
  obtain ⟨F, M, Y, rl, ad, hv, hq, hrl, hPX, hDX, hPR, hDR, hS, hAR⟩ := hv9
  subst hq
  have hts : ∀ w ∈ wsL_law, w.before #[Value.ref b] s = true := fun w hw => hts0 w (wsL_law_in w hw)
  replace hown : s.vm.findClass RL = some m.cls := hown
  have hbA : ¬ A0 s b := Nat.not_le.mpr hbl
  refine lv_aload_n hx hb dL_law_871 rfl (lv_at hl 1 rfl) ?_
  refine lv_aload_n hx hb dL_law_872 rfl (lv_at hl 0 rfl) ?_
  refine lv_iload_n hx hb dL_law_873 rfl (lv_at hl 3 rfl) ?_
  refine lv_iconst (v := 1) hx hb dL_law_874 (by decide) ?_
  refine lv_iadd hx hb dL_law_875 ?_
  refine va_sld hx hb hX hbl hbA hS (nx_in (show (nI i1) + 1 = nI ((i1) + 1) from by show (nI i1) + nI 1 = _; simp only [nI_add, pk_mul]) (by omega) (by omega)) dL_law_876 ?_
  rw [nx_cl (show (nI i1) + 1 = nI ((i1) + 1) from by show (nI i1) + nI 1 = _; simp only [nI_add, pk_mul]) (by omega)]
  refine va_calli (va_runV (As := [.int (xs ((i1) + 1))]) (rest := []) ⟨hx, hb, hml, hown, hts⟩ (c_X10_withdraw l dC dI rl ad cy F M Y (xs ((i1) + 1)) hrl hv.1 hv.2 (AX s h a) hDX) (cwV 1 hts gL_law_X10_withdraw rfl rfl rfl (by decide +kernel) ⟨Nat.le_of_ble_eq_true rfl, Nat.le_of_ble_eq_true rfl⟩) ⟨pc_blind, rg_recv hK hPX ((hrl _).mpr (vd_9 (by decide))) (ci := 9) rfl en_9, fun U hU hW => ⟨rfl, by rw [hU]; exact hPX, va_K.moved hW.alike hK, nst_w hW hN⟩⟩ rfl rfl hl.1 rfl (lv_room (Nat.le_of_ble_eq_true rfl)) dL_law_877 ⟨show 100 + 2 * k + 0 ≤ 600000 by omega, show 3000 + 12 * k + 0 ≤ 7302250 by omega⟩) hS (fun q _ h => h.1) (fun q h => h.1) (fun r u t H1 locs ht hvm hw hB hz1 hk1 hS => ?_)
  subst hw
  obtain ⟨⟨hP1, -, -⟩, hD1⟩ := hB
  rw [ht] at hP1
  replace hPR := wk hPR (fun k q hk => hk1 q.1 (hPR k q hk).lt (fun z => z.2 (hDR.2 k q hk)))
  refine lv_aload_n hx hb dL_law_880 rfl (lv_at hl 2 rfl) ?_
  refine lv_aload_n hx hb dL_law_881 rfl (lv_at hl 0 rfl) ?_
  refine lv_iload_n hx hb dL_law_882 rfl (lv_at hl 3 rfl) ?_
  refine lv_iconst (v := 1) hx hb dL_law_883 (by decide) ?_
  refine lv_iadd hx hb dL_law_884 ?_
  refine va_sld hx hb hX hbl hbA hS (nx_in (show (nI i1) + 1 = nI ((i1) + 1) from by show (nI i1) + nI 1 = _; simp only [nI_add, pk_mul]) (by omega) (by omega)) dL_law_885 ?_
  rw [nx_cl (show (nI i1) + 1 = nI ((i1) + 1) from by show (nI i1) + nI 1 = _; simp only [nI_add, pk_mul]) (by omega)]
  refine va_calli (va_runV (As := [.int (xs ((i1) + 1))]) (rest := [.int ((s_X11_withdraw F M (xs ((i1) + 1))).1)]) ⟨hx, hb, hml, hown, hts⟩ (c_X11_withdraw l dC dI h a cI cB cZ F M (xs ((i1) + 1)) (AR h a) hDR hv.1) (cwV 1 hts gL_law_X11_withdraw rfl rfl rfl (by decide +kernel) ⟨Nat.le_of_ble_eq_true rfl, Nat.le_of_ble_eq_true rfl⟩) ⟨pm_blind, va_recv hK3 hPR (ci := 10) (q0 := 0) rfl rfl, fun U hU hW => ⟨rfl, by rw [hU]; exact hPR, va_K.moved hW.alike hK3⟩⟩ rfl rfl hl.1 rfl (lv_room (Nat.le_of_ble_eq_true rfl)) dL_law_886 ⟨show 100 + 2 * k + 0 + 0 ≤ 600000 by omega, show 3000 + 12 * k + 0 + 0 ≤ 7302250 by omega⟩) hS (fun q _ h => hAR q h) (fun q h => hAR q h) (fun r u t H2 locs ht hvm hw hB hz2 hk2 hS => ?_)
  obtain ⟨hr9, hu9⟩ : r = (s_X11_withdraw F M (xs ((i1) + 1))).1 ∧ u = (s_X11_withdraw F M (xs ((i1) + 1))).2 := ⟨congrArg Prod.fst hw, congrArg Prod.snd hw⟩
  subst hr9; subst hu9
  obtain ⟨⟨hP2, -⟩, hD2⟩ := hB
  rw [ht] at hP2
  have hPX := wk hP1 (fun k q hk => hk2 q.1 (hP1 k q hk).lt (hD1.2 k q hk).2)
  have hDX := hD1; have hPR := hP2
  refine lv_icmp_eq (tgt := 1452) hx hb dL_law_889 (by decide) (fun _ => ?_) (fun c => absurd rfl c)
  refine W.widen (k := 100 + 2 * (k + 1)) (n := 3000 + 12 * (k + 1)) (by omega) (by omega) ?_
  exact KK _ _ _ ⟨(s_X11_withdraw F M (xs ((i1) + 1))).2.1, (s_X11_withdraw F M (xs ((i1) + 1))).2.2, _, rl, ad, k_withdraw (xs ((i1) + 1)) hv.1 hv.2, rfl, fun r => (hrl r).trans (v_withdraw F M (xs ((i1) + 1)) r).symm, hPX, hDX, hPR, dR hD2, hS, hAR⟩ (lv_sub hl [0, 1, 2, 3] rfl)

set_option maxHeartbeats 4000000 in
set_option maxRecDepth 100000 in
theorem lc_ballot {p : Program} {l : Launch} {e : Env} {s : State} {m : MethodId} {below : List Frame} {meth : Method} {c : Code} {dC : Nat → ClassId} {dI : Nat → Nat → Nat} {cy : Nat → ClassId} {cI cB cZ : ClassId} {h : Nat} {a : Nat → Nat} {b L : Nat} {xs : Nat → Int32} (hL : L ≤ 3584) (C0 : lw_At p s m meth c b L xs) (hSt : lS s dC dI cy cI cB cZ) (k i1 : Nat) (hik : i1 = 7 * k) (hi7 : i1 + 7 ≤ L) (qx : Nat) (H : Heap) (locs : List Loc) (hv9 : lI s dC dI cy cI cB cZ h a qx H locs) (ls : Array Slot) (hl : lv_has ls 4 [(0, .ref b), (1, .ref qx), (2, .ref h), (3, .int (nI i1))])
    (KK : ∀ (H1 : Heap) (locs1 : List Loc) (ls1 : Array Slot), lI s dC dI cy cI cB cZ h a qx H1 locs1 → lv_has ls1 4 [(0, .ref b), (1, .ref qx), (2, .ref h), (3, .int (nI i1))] → W p l e room_1 s m #[Value.ref b] below meth c H1 locs1 (100 + 2 * (k + 1)) (3000 + 12 * (k + 1)) (lw_Z below #[Value.ref b] s) (F0 m 1452 ls1 [])) :
    W p l e room_1 s m #[Value.ref b] below meth c H locs (100 + 2 * k) (3000 + 12 * k) (lw_Z below #[Value.ref b] s) (F0 m 894 ls []) := by
  obtain ⟨hx, hb, hr, hml, hown, hts0, hX, hbl, hlocks, hgv⟩ := C0
  obtain ⟨hK, hN, hK3, hO4⟩ := hSt
  obtain ⟨F, M, Y, rl, ad, hv, hq, hrl, hPX, hDX, hPR, hDR, hS, hAR⟩ := hv9
  subst hq
  have hts : ∀ w ∈ wsL_law, w.before #[Value.ref b] s = true := fun w hw => hts0 w (wsL_law_in w hw)
  replace hown : s.vm.findClass RL = some m.cls := hown
  have hbA : ¬ A0 s b := Nat.not_le.mpr hbl
  refine lv_aload_n hx hb dL_law_894 rfl (lv_at hl 1 rfl) ?_
  refine lv_aload_n hx hb dL_law_895 rfl (lv_at hl 0 rfl) ?_
  refine lv_iload_n hx hb dL_law_896 rfl (lv_at hl 3 rfl) ?_
  refine lv_iconst (v := 1) hx hb dL_law_897 (by decide) ?_
  refine lv_iadd hx hb dL_law_898 ?_
  refine va_sld hx hb hX hbl hbA hS (nx_in (show (nI i1) + 1 = nI ((i1) + 1) from by show (nI i1) + nI 1 = _; simp only [nI_add, pk_mul]) (by omega) (by omega)) dL_law_899 ?_
  rw [nx_cl (show (nI i1) + 1 = nI ((i1) + 1) from by show (nI i1) + nI 1 = _; simp only [nI_add, pk_mul]) (by omega)]
  refine lv_aload_n hx hb dL_law_900 rfl (lv_at hl 0 rfl) ?_
  refine lv_iload_n hx hb dL_law_901 rfl (lv_at hl 3 rfl) ?_
  refine lv_iconst (v := 2) hx hb dL_law_902 (by decide) ?_
  refine lv_iadd hx hb dL_law_903 ?_
  refine va_sld hx hb hX hbl hbA hS (nx_in (show (nI i1) + 2 = nI ((i1) + 2) from by show (nI i1) + nI 2 = _; simp only [nI_add, pk_mul]) (by omega) (by omega)) dL_law_904 ?_
  rw [nx_cl (show (nI i1) + 2 = nI ((i1) + 2) from by show (nI i1) + nI 2 = _; simp only [nI_add, pk_mul]) (by omega)]
  refine lv_aload_n hx hb dL_law_905 rfl (lv_at hl 0 rfl) ?_
  refine lv_iload_n hx hb dL_law_906 rfl (lv_at hl 3 rfl) ?_
  refine lv_iconst (v := 3) hx hb dL_law_907 (by decide) ?_
  refine lv_iadd hx hb dL_law_908 ?_
  refine va_sld hx hb hX hbl hbA hS (nx_in (show (nI i1) + 3 = nI ((i1) + 3) from by show (nI i1) + nI 3 = _; simp only [nI_add, pk_mul]) (by omega) (by omega)) dL_law_909 ?_
  rw [nx_cl (show (nI i1) + 3 = nI ((i1) + 3) from by show (nI i1) + nI 3 = _; simp only [nI_add, pk_mul]) (by omega)]
  refine va_calli (va_runV (As := [.int (xs ((i1) + 1)), .int (xs ((i1) + 2)), .int (xs ((i1) + 3))]) (rest := []) ⟨hx, hb, hml, hown, hts⟩ (c_X10_ballot l dC dI rl ad cy F M Y (xs ((i1) + 1)) (xs ((i1) + 2)) (xs ((i1) + 3)) hrl hv.1 hv.2 (AX s h a) hDX) (cwV 3 hts gL_law_X10_ballot rfl rfl rfl (by decide +kernel) ⟨Nat.le_of_ble_eq_true rfl, Nat.le_of_ble_eq_true rfl⟩) ⟨pc_blind, rg_recv hK hPX ((hrl _).mpr (vd_9 (by decide))) (ci := 9) rfl en_9, fun U hU hW => ⟨rfl, by rw [hU]; exact hPX, va_K.moved hW.alike hK, nst_w hW hN⟩⟩ rfl rfl hl.1 rfl (lv_room (Nat.le_of_ble_eq_true rfl)) dL_law_910 ⟨show 100 + 2 * k + 0 ≤ 600000 by omega, show 3000 + 12 * k + 0 ≤ 7302250 by omega⟩) hS (fun q _ h => h.1) (fun q h => h.1) (fun r u t H1 locs ht hvm hw hB hz1 hk1 hS => ?_)
  subst hw
  obtain ⟨⟨hP1, -, -⟩, hD1⟩ := hB
  rw [ht] at hP1
  replace hPR := wk hPR (fun k q hk => hk1 q.1 (hPR k q hk).lt (fun z => z.2 (hDR.2 k q hk)))
  refine lv_aload_n hx hb dL_law_913 rfl (lv_at hl 2 rfl) ?_
  refine lv_aload_n hx hb dL_law_914 rfl (lv_at hl 0 rfl) ?_
  refine lv_iload_n hx hb dL_law_915 rfl (lv_at hl 3 rfl) ?_
  refine lv_iconst (v := 1) hx hb dL_law_916 (by decide) ?_
  refine lv_iadd hx hb dL_law_917 ?_
  refine va_sld hx hb hX hbl hbA hS (nx_in (show (nI i1) + 1 = nI ((i1) + 1) from by show (nI i1) + nI 1 = _; simp only [nI_add, pk_mul]) (by omega) (by omega)) dL_law_918 ?_
  rw [nx_cl (show (nI i1) + 1 = nI ((i1) + 1) from by show (nI i1) + nI 1 = _; simp only [nI_add, pk_mul]) (by omega)]
  refine lv_aload_n hx hb dL_law_919 rfl (lv_at hl 0 rfl) ?_
  refine lv_iload_n hx hb dL_law_920 rfl (lv_at hl 3 rfl) ?_
  refine lv_iconst (v := 2) hx hb dL_law_921 (by decide) ?_
  refine lv_iadd hx hb dL_law_922 ?_
  refine va_sld hx hb hX hbl hbA hS (nx_in (show (nI i1) + 2 = nI ((i1) + 2) from by show (nI i1) + nI 2 = _; simp only [nI_add, pk_mul]) (by omega) (by omega)) dL_law_923 ?_
  rw [nx_cl (show (nI i1) + 2 = nI ((i1) + 2) from by show (nI i1) + nI 2 = _; simp only [nI_add, pk_mul]) (by omega)]
  refine lv_aload_n hx hb dL_law_924 rfl (lv_at hl 0 rfl) ?_
  refine lv_iload_n hx hb dL_law_925 rfl (lv_at hl 3 rfl) ?_
  refine lv_iconst (v := 3) hx hb dL_law_926 (by decide) ?_
  refine lv_iadd hx hb dL_law_927 ?_
  refine va_sld hx hb hX hbl hbA hS (nx_in (show (nI i1) + 3 = nI ((i1) + 3) from by show (nI i1) + nI 3 = _; simp only [nI_add, pk_mul]) (by omega) (by omega)) dL_law_928 ?_
  rw [nx_cl (show (nI i1) + 3 = nI ((i1) + 3) from by show (nI i1) + nI 3 = _; simp only [nI_add, pk_mul]) (by omega)]
  refine va_calli (va_runV (As := [.int (xs ((i1) + 1)), .int (xs ((i1) + 2)), .int (xs ((i1) + 3))]) (rest := [.int ((s_X11_ballot F M (xs ((i1) + 1)) (xs ((i1) + 2)) (xs ((i1) + 3))).1)]) ⟨hx, hb, hml, hown, hts⟩ (c_X11_ballot l dC dI h a cI cB cZ F M (xs ((i1) + 1)) (xs ((i1) + 2)) (xs ((i1) + 3)) (AR h a) hDR hv.1) (cwV 3 hts gL_law_X11_ballot rfl rfl rfl (by decide +kernel) ⟨Nat.le_of_ble_eq_true rfl, Nat.le_of_ble_eq_true rfl⟩) ⟨pm_blind, va_recv hK3 hPR (ci := 10) (q0 := 0) rfl rfl, fun U hU hW => ⟨rfl, by rw [hU]; exact hPR, va_K.moved hW.alike hK3⟩⟩ rfl rfl hl.1 rfl (lv_room (Nat.le_of_ble_eq_true rfl)) dL_law_929 ⟨show 100 + 2 * k + 0 + 0 ≤ 600000 by omega, show 3000 + 12 * k + 0 + 0 ≤ 7302250 by omega⟩) hS (fun q _ h => hAR q h) (fun q h => hAR q h) (fun r u t H2 locs ht hvm hw hB hz2 hk2 hS => ?_)
  obtain ⟨hr9, hu9⟩ : r = (s_X11_ballot F M (xs ((i1) + 1)) (xs ((i1) + 2)) (xs ((i1) + 3))).1 ∧ u = (s_X11_ballot F M (xs ((i1) + 1)) (xs ((i1) + 2)) (xs ((i1) + 3))).2 := ⟨congrArg Prod.fst hw, congrArg Prod.snd hw⟩
  subst hr9; subst hu9
  obtain ⟨⟨hP2, -⟩, hD2⟩ := hB
  rw [ht] at hP2
  have hPX := wk hP1 (fun k q hk => hk2 q.1 (hP1 k q hk).lt (hD1.2 k q hk).2)
  have hDX := hD1; have hPR := hP2
  refine lv_icmp_eq (tgt := 1452) hx hb dL_law_932 (by decide) (fun _ => ?_) (fun c => absurd rfl c)
  refine W.widen (k := 100 + 2 * (k + 1)) (n := 3000 + 12 * (k + 1)) (by omega) (by omega) ?_
  exact KK _ _ _ ⟨(s_X11_ballot F M (xs ((i1) + 1)) (xs ((i1) + 2)) (xs ((i1) + 3))).2.1, (s_X11_ballot F M (xs ((i1) + 1)) (xs ((i1) + 2)) (xs ((i1) + 3))).2.2, _, rl, ad, k_ballot (xs ((i1) + 1)) (xs ((i1) + 2)) (xs ((i1) + 3)) hv.1 hv.2, rfl, fun r => (hrl r).trans (v_ballot F M (xs ((i1) + 1)) (xs ((i1) + 2)) (xs ((i1) + 3)) r).symm, hPX, hDX, hPR, dR hD2, hS, hAR⟩ (lv_sub hl [0, 1, 2, 3] rfl)

set_option maxHeartbeats 4000000 in
set_option maxRecDepth 100000 in
theorem lc_medal {p : Program} {l : Launch} {e : Env} {s : State} {m : MethodId} {below : List Frame} {meth : Method} {c : Code} {dC : Nat → ClassId} {dI : Nat → Nat → Nat} {cy : Nat → ClassId} {cI cB cZ : ClassId} {h : Nat} {a : Nat → Nat} {b L : Nat} {xs : Nat → Int32} (hL : L ≤ 3584) (C0 : lw_At p s m meth c b L xs) (hSt : lS s dC dI cy cI cB cZ) (k i1 : Nat) (hik : i1 = 7 * k) (hi7 : i1 + 7 ≤ L) (qx : Nat) (H : Heap) (locs : List Loc) (hv9 : lI s dC dI cy cI cB cZ h a qx H locs) (ls : Array Slot) (hl : lv_has ls 4 [(0, .ref b), (1, .ref qx), (2, .ref h), (3, .int (nI i1))])
    (KK : ∀ (H1 : Heap) (locs1 : List Loc) (ls1 : Array Slot), lI s dC dI cy cI cB cZ h a qx H1 locs1 → lv_has ls1 4 [(0, .ref b), (1, .ref qx), (2, .ref h), (3, .int (nI i1))] → W p l e room_1 s m #[Value.ref b] below meth c H1 locs1 (100 + 2 * (k + 1)) (3000 + 12 * (k + 1)) (lw_Z below #[Value.ref b] s) (F0 m 1452 ls1 [])) :
    W p l e room_1 s m #[Value.ref b] below meth c H locs (100 + 2 * k) (3000 + 12 * k) (lw_Z below #[Value.ref b] s) (F0 m 937 ls []) := by
  obtain ⟨hx, hb, hr, hml, hown, hts0, hX, hbl, hlocks, hgv⟩ := C0
  obtain ⟨hK, hN, hK3, hO4⟩ := hSt
  obtain ⟨F, M, Y, rl, ad, hv, hq, hrl, hPX, hDX, hPR, hDR, hS, hAR⟩ := hv9
  subst hq
  have hts : ∀ w ∈ wsL_law, w.before #[Value.ref b] s = true := fun w hw => hts0 w (wsL_law_in w hw)
  replace hown : s.vm.findClass RL = some m.cls := hown
  have hbA : ¬ A0 s b := Nat.not_le.mpr hbl
  refine lv_aload_n hx hb dL_law_937 rfl (lv_at hl 1 rfl) ?_
  refine lv_aload_n hx hb dL_law_938 rfl (lv_at hl 0 rfl) ?_
  refine lv_iload_n hx hb dL_law_939 rfl (lv_at hl 3 rfl) ?_
  refine lv_iconst (v := 1) hx hb dL_law_940 (by decide) ?_
  refine lv_iadd hx hb dL_law_941 ?_
  refine va_sld hx hb hX hbl hbA hS (nx_in (show (nI i1) + 1 = nI ((i1) + 1) from by show (nI i1) + nI 1 = _; simp only [nI_add, pk_mul]) (by omega) (by omega)) dL_law_942 ?_
  rw [nx_cl (show (nI i1) + 1 = nI ((i1) + 1) from by show (nI i1) + nI 1 = _; simp only [nI_add, pk_mul]) (by omega)]
  refine lv_aload_n hx hb dL_law_943 rfl (lv_at hl 0 rfl) ?_
  refine lv_iload_n hx hb dL_law_944 rfl (lv_at hl 3 rfl) ?_
  refine lv_iconst (v := 2) hx hb dL_law_945 (by decide) ?_
  refine lv_iadd hx hb dL_law_946 ?_
  refine va_sld hx hb hX hbl hbA hS (nx_in (show (nI i1) + 2 = nI ((i1) + 2) from by show (nI i1) + nI 2 = _; simp only [nI_add, pk_mul]) (by omega) (by omega)) dL_law_947 ?_
  rw [nx_cl (show (nI i1) + 2 = nI ((i1) + 2) from by show (nI i1) + nI 2 = _; simp only [nI_add, pk_mul]) (by omega)]
  refine lv_aload_n hx hb dL_law_948 rfl (lv_at hl 0 rfl) ?_
  refine lv_iload_n hx hb dL_law_949 rfl (lv_at hl 3 rfl) ?_
  refine lv_iconst (v := 3) hx hb dL_law_950 (by decide) ?_
  refine lv_iadd hx hb dL_law_951 ?_
  refine va_sld hx hb hX hbl hbA hS (nx_in (show (nI i1) + 3 = nI ((i1) + 3) from by show (nI i1) + nI 3 = _; simp only [nI_add, pk_mul]) (by omega) (by omega)) dL_law_952 ?_
  rw [nx_cl (show (nI i1) + 3 = nI ((i1) + 3) from by show (nI i1) + nI 3 = _; simp only [nI_add, pk_mul]) (by omega)]
  refine va_calli (va_runV (As := [.int (xs ((i1) + 1)), .int (xs ((i1) + 2)), .int (xs ((i1) + 3))]) (rest := []) ⟨hx, hb, hml, hown, hts⟩ (c_X10_medal l dC dI rl ad cy F M Y (xs ((i1) + 1)) (xs ((i1) + 2)) (xs ((i1) + 3)) hrl hv.1 hv.2 (AX s h a) hDX) (cwV 3 hts gL_law_X10_medal rfl rfl rfl (by decide +kernel) ⟨Nat.le_of_ble_eq_true rfl, Nat.le_of_ble_eq_true rfl⟩) ⟨pc_blind, rg_recv hK hPX ((hrl _).mpr (vd_9 (by decide))) (ci := 9) rfl en_9, fun U hU hW => ⟨rfl, by rw [hU]; exact hPX, va_K.moved hW.alike hK, nst_w hW hN⟩⟩ rfl rfl hl.1 rfl (lv_room (Nat.le_of_ble_eq_true rfl)) dL_law_953 ⟨show 100 + 2 * k + 0 ≤ 600000 by omega, show 3000 + 12 * k + 0 ≤ 7302250 by omega⟩) hS (fun q _ h => h.1) (fun q h => h.1) (fun r u t H1 locs ht hvm hw hB hz1 hk1 hS => ?_)
  subst hw
  obtain ⟨⟨hP1, -, -⟩, hD1⟩ := hB
  rw [ht] at hP1
  replace hPR := wk hPR (fun k q hk => hk1 q.1 (hPR k q hk).lt (fun z => z.2 (hDR.2 k q hk)))
  refine lv_aload_n hx hb dL_law_956 rfl (lv_at hl 2 rfl) ?_
  refine lv_aload_n hx hb dL_law_957 rfl (lv_at hl 0 rfl) ?_
  refine lv_iload_n hx hb dL_law_958 rfl (lv_at hl 3 rfl) ?_
  refine lv_iconst (v := 1) hx hb dL_law_959 (by decide) ?_
  refine lv_iadd hx hb dL_law_960 ?_
  refine va_sld hx hb hX hbl hbA hS (nx_in (show (nI i1) + 1 = nI ((i1) + 1) from by show (nI i1) + nI 1 = _; simp only [nI_add, pk_mul]) (by omega) (by omega)) dL_law_961 ?_
  rw [nx_cl (show (nI i1) + 1 = nI ((i1) + 1) from by show (nI i1) + nI 1 = _; simp only [nI_add, pk_mul]) (by omega)]
  refine lv_aload_n hx hb dL_law_962 rfl (lv_at hl 0 rfl) ?_
  refine lv_iload_n hx hb dL_law_963 rfl (lv_at hl 3 rfl) ?_
  refine lv_iconst (v := 2) hx hb dL_law_964 (by decide) ?_
  refine lv_iadd hx hb dL_law_965 ?_
  refine va_sld hx hb hX hbl hbA hS (nx_in (show (nI i1) + 2 = nI ((i1) + 2) from by show (nI i1) + nI 2 = _; simp only [nI_add, pk_mul]) (by omega) (by omega)) dL_law_966 ?_
  rw [nx_cl (show (nI i1) + 2 = nI ((i1) + 2) from by show (nI i1) + nI 2 = _; simp only [nI_add, pk_mul]) (by omega)]
  refine lv_aload_n hx hb dL_law_967 rfl (lv_at hl 0 rfl) ?_
  refine lv_iload_n hx hb dL_law_968 rfl (lv_at hl 3 rfl) ?_
  refine lv_iconst (v := 3) hx hb dL_law_969 (by decide) ?_
  refine lv_iadd hx hb dL_law_970 ?_
  refine va_sld hx hb hX hbl hbA hS (nx_in (show (nI i1) + 3 = nI ((i1) + 3) from by show (nI i1) + nI 3 = _; simp only [nI_add, pk_mul]) (by omega) (by omega)) dL_law_971 ?_
  rw [nx_cl (show (nI i1) + 3 = nI ((i1) + 3) from by show (nI i1) + nI 3 = _; simp only [nI_add, pk_mul]) (by omega)]
  refine va_calli (va_runV (As := [.int (xs ((i1) + 1)), .int (xs ((i1) + 2)), .int (xs ((i1) + 3))]) (rest := [.int ((s_X11_medal F M (xs ((i1) + 1)) (xs ((i1) + 2)) (xs ((i1) + 3))).1)]) ⟨hx, hb, hml, hown, hts⟩ (c_X11_medal l dC dI h a cI cB cZ F M (xs ((i1) + 1)) (xs ((i1) + 2)) (xs ((i1) + 3)) (AR h a) hDR) (cwV 3 hts gL_law_X11_medal rfl rfl rfl (by decide +kernel) ⟨Nat.le_of_ble_eq_true rfl, Nat.le_of_ble_eq_true rfl⟩) ⟨pm_blind, va_recv hK3 hPR (ci := 10) (q0 := 0) rfl rfl, fun U hU hW => ⟨rfl, by rw [hU]; exact hPR, va_K.moved hW.alike hK3⟩⟩ rfl rfl hl.1 rfl (lv_room (Nat.le_of_ble_eq_true rfl)) dL_law_972 ⟨show 100 + 2 * k + 0 + 0 ≤ 600000 by omega, show 3000 + 12 * k + 0 + 0 ≤ 7302250 by omega⟩) hS (fun q _ h => hAR q h) (fun q h => hAR q h) (fun r u t H2 locs ht hvm hw hB hz2 hk2 hS => ?_)
  obtain ⟨hr9, hu9⟩ : r = (s_X11_medal F M (xs ((i1) + 1)) (xs ((i1) + 2)) (xs ((i1) + 3))).1 ∧ u = (s_X11_medal F M (xs ((i1) + 1)) (xs ((i1) + 2)) (xs ((i1) + 3))).2 := ⟨congrArg Prod.fst hw, congrArg Prod.snd hw⟩
  subst hr9; subst hu9
  obtain ⟨⟨hP2, -⟩, hD2⟩ := hB
  rw [ht] at hP2
  have hPX := wk hP1 (fun k q hk => hk2 q.1 (hP1 k q hk).lt (hD1.2 k q hk).2)
  have hDX := hD1; have hPR := hP2
  refine lv_icmp_eq (tgt := 1452) hx hb dL_law_975 (by decide) (fun _ => ?_) (fun c => absurd rfl c)
  refine W.widen (k := 100 + 2 * (k + 1)) (n := 3000 + 12 * (k + 1)) (by omega) (by omega) ?_
  exact KK _ _ _ ⟨(s_X11_medal F M (xs ((i1) + 1)) (xs ((i1) + 2)) (xs ((i1) + 3))).2.1, (s_X11_medal F M (xs ((i1) + 1)) (xs ((i1) + 2)) (xs ((i1) + 3))).2.2, _, rl, ad, k_medal (xs ((i1) + 1)) (xs ((i1) + 2)) (xs ((i1) + 3)) hv.1 hv.2, rfl, fun r => (hrl r).trans (v_medal F M (xs ((i1) + 1)) (xs ((i1) + 2)) (xs ((i1) + 3)) r).symm, hPX, hDX, hPR, dR hD2, hS, hAR⟩ (lv_sub hl [0, 1, 2, 3] rfl)

set_option maxHeartbeats 4000000 in
set_option maxRecDepth 100000 in
theorem lc_award {p : Program} {l : Launch} {e : Env} {s : State} {m : MethodId} {below : List Frame} {meth : Method} {c : Code} {dC : Nat → ClassId} {dI : Nat → Nat → Nat} {cy : Nat → ClassId} {cI cB cZ : ClassId} {h : Nat} {a : Nat → Nat} {b L : Nat} {xs : Nat → Int32} (hL : L ≤ 3584) (C0 : lw_At p s m meth c b L xs) (hSt : lS s dC dI cy cI cB cZ) (k i1 : Nat) (hik : i1 = 7 * k) (hi7 : i1 + 7 ≤ L) (qx : Nat) (H : Heap) (locs : List Loc) (hv9 : lI s dC dI cy cI cB cZ h a qx H locs) (ls : Array Slot) (hl : lv_has ls 4 [(0, .ref b), (1, .ref qx), (2, .ref h), (3, .int (nI i1))])
    (KK : ∀ (H1 : Heap) (locs1 : List Loc) (ls1 : Array Slot), lI s dC dI cy cI cB cZ h a qx H1 locs1 → lv_has ls1 4 [(0, .ref b), (1, .ref qx), (2, .ref h), (3, .int (nI i1))] → W p l e room_1 s m #[Value.ref b] below meth c H1 locs1 (100 + 2 * (k + 1)) (3000 + 12 * (k + 1)) (lw_Z below #[Value.ref b] s) (F0 m 1452 ls1 [])) :
    W p l e room_1 s m #[Value.ref b] below meth c H locs (100 + 2 * k) (3000 + 12 * k) (lw_Z below #[Value.ref b] s) (F0 m 980 ls []) := by
  obtain ⟨hx, hb, hr, hml, hown, hts0, hX, hbl, hlocks, hgv⟩ := C0
  obtain ⟨hK, hN, hK3, hO4⟩ := hSt
  obtain ⟨F, M, Y, rl, ad, hv, hq, hrl, hPX, hDX, hPR, hDR, hS, hAR⟩ := hv9
  subst hq
  have hts : ∀ w ∈ wsL_law, w.before #[Value.ref b] s = true := fun w hw => hts0 w (wsL_law_in w hw)
  replace hown : s.vm.findClass RL = some m.cls := hown
  have hbA : ¬ A0 s b := Nat.not_le.mpr hbl
  refine lv_aload_n hx hb dL_law_980 rfl (lv_at hl 1 rfl) ?_
  refine lv_aload_n hx hb dL_law_981 rfl (lv_at hl 0 rfl) ?_
  refine lv_iload_n hx hb dL_law_982 rfl (lv_at hl 3 rfl) ?_
  refine lv_iconst (v := 1) hx hb dL_law_983 (by decide) ?_
  refine lv_iadd hx hb dL_law_984 ?_
  refine va_sld hx hb hX hbl hbA hS (nx_in (show (nI i1) + 1 = nI ((i1) + 1) from by show (nI i1) + nI 1 = _; simp only [nI_add, pk_mul]) (by omega) (by omega)) dL_law_985 ?_
  rw [nx_cl (show (nI i1) + 1 = nI ((i1) + 1) from by show (nI i1) + nI 1 = _; simp only [nI_add, pk_mul]) (by omega)]
  refine lv_aload_n hx hb dL_law_986 rfl (lv_at hl 0 rfl) ?_
  refine lv_iload_n hx hb dL_law_987 rfl (lv_at hl 3 rfl) ?_
  refine lv_iconst (v := 2) hx hb dL_law_988 (by decide) ?_
  refine lv_iadd hx hb dL_law_989 ?_
  refine va_sld hx hb hX hbl hbA hS (nx_in (show (nI i1) + 2 = nI ((i1) + 2) from by show (nI i1) + nI 2 = _; simp only [nI_add, pk_mul]) (by omega) (by omega)) dL_law_990 ?_
  rw [nx_cl (show (nI i1) + 2 = nI ((i1) + 2) from by show (nI i1) + nI 2 = _; simp only [nI_add, pk_mul]) (by omega)]
  refine va_calli (va_runV (As := [.int (xs ((i1) + 1)), .int (xs ((i1) + 2))]) (rest := []) ⟨hx, hb, hml, hown, hts⟩ (c_X10_award l dC dI rl ad cy F M Y (xs ((i1) + 1)) (xs ((i1) + 2)) hrl hv.1 hv.2 (AX s h a) hDX) (cwV 2 hts gL_law_X10_award rfl rfl rfl (by decide +kernel) ⟨Nat.le_of_ble_eq_true rfl, Nat.le_of_ble_eq_true rfl⟩) ⟨pc_blind, rg_recv hK hPX ((hrl _).mpr (vd_9 (by decide))) (ci := 9) rfl en_9, fun U hU hW => ⟨rfl, by rw [hU]; exact hPX, va_K.moved hW.alike hK, nst_w hW hN⟩⟩ rfl rfl hl.1 rfl (lv_room (Nat.le_of_ble_eq_true rfl)) dL_law_991 ⟨show 100 + 2 * k + 0 ≤ 600000 by omega, show 3000 + 12 * k + 0 ≤ 7302250 by omega⟩) hS (fun q _ h => h.1) (fun q h => h.1) (fun r u t H1 locs ht hvm hw hB hz1 hk1 hS => ?_)
  subst hw
  obtain ⟨⟨hP1, -, -⟩, hD1⟩ := hB
  rw [ht] at hP1
  replace hPR := wk hPR (fun k q hk => hk1 q.1 (hPR k q hk).lt (fun z => z.2 (hDR.2 k q hk)))
  refine lv_aload_n hx hb dL_law_994 rfl (lv_at hl 2 rfl) ?_
  refine lv_aload_n hx hb dL_law_995 rfl (lv_at hl 0 rfl) ?_
  refine lv_iload_n hx hb dL_law_996 rfl (lv_at hl 3 rfl) ?_
  refine lv_iconst (v := 1) hx hb dL_law_997 (by decide) ?_
  refine lv_iadd hx hb dL_law_998 ?_
  refine va_sld hx hb hX hbl hbA hS (nx_in (show (nI i1) + 1 = nI ((i1) + 1) from by show (nI i1) + nI 1 = _; simp only [nI_add, pk_mul]) (by omega) (by omega)) dL_law_999 ?_
  rw [nx_cl (show (nI i1) + 1 = nI ((i1) + 1) from by show (nI i1) + nI 1 = _; simp only [nI_add, pk_mul]) (by omega)]
  refine lv_aload_n hx hb dL_law_1000 rfl (lv_at hl 0 rfl) ?_
  refine lv_iload_n hx hb dL_law_1001 rfl (lv_at hl 3 rfl) ?_
  refine lv_iconst (v := 2) hx hb dL_law_1002 (by decide) ?_
  refine lv_iadd hx hb dL_law_1003 ?_
  refine va_sld hx hb hX hbl hbA hS (nx_in (show (nI i1) + 2 = nI ((i1) + 2) from by show (nI i1) + nI 2 = _; simp only [nI_add, pk_mul]) (by omega) (by omega)) dL_law_1004 ?_
  rw [nx_cl (show (nI i1) + 2 = nI ((i1) + 2) from by show (nI i1) + nI 2 = _; simp only [nI_add, pk_mul]) (by omega)]
  refine va_calli (va_runV (As := [.int (xs ((i1) + 1)), .int (xs ((i1) + 2))]) (rest := [.int ((s_X11_award F M (xs ((i1) + 1)) (xs ((i1) + 2))).1)]) ⟨hx, hb, hml, hown, hts⟩ (c_X11_award l dC dI h a cI cB cZ F M (xs ((i1) + 1)) (xs ((i1) + 2)) (AR h a) hDR hv.1) (cwV 2 hts gL_law_X11_award rfl rfl rfl (by decide +kernel) ⟨Nat.le_of_ble_eq_true rfl, Nat.le_of_ble_eq_true rfl⟩) ⟨pm_blind, va_recv hK3 hPR (ci := 10) (q0 := 0) rfl rfl, fun U hU hW => ⟨rfl, by rw [hU]; exact hPR, va_K.moved hW.alike hK3⟩⟩ rfl rfl hl.1 rfl (lv_room (Nat.le_of_ble_eq_true rfl)) dL_law_1005 ⟨show 100 + 2 * k + 0 + 0 ≤ 600000 by omega, show 3000 + 12 * k + 0 + 0 ≤ 7302250 by omega⟩) hS (fun q _ h => hAR q h) (fun q h => hAR q h) (fun r u t H2 locs ht hvm hw hB hz2 hk2 hS => ?_)
  obtain ⟨hr9, hu9⟩ : r = (s_X11_award F M (xs ((i1) + 1)) (xs ((i1) + 2))).1 ∧ u = (s_X11_award F M (xs ((i1) + 1)) (xs ((i1) + 2))).2 := ⟨congrArg Prod.fst hw, congrArg Prod.snd hw⟩
  subst hr9; subst hu9
  obtain ⟨⟨hP2, -⟩, hD2⟩ := hB
  rw [ht] at hP2
  have hPX := wk hP1 (fun k q hk => hk2 q.1 (hP1 k q hk).lt (hD1.2 k q hk).2)
  have hDX := hD1; have hPR := hP2
  refine lv_icmp_eq (tgt := 1452) hx hb dL_law_1008 (by decide) (fun _ => ?_) (fun c => absurd rfl c)
  refine W.widen (k := 100 + 2 * (k + 1)) (n := 3000 + 12 * (k + 1)) (by omega) (by omega) ?_
  exact KK _ _ _ ⟨(s_X11_award F M (xs ((i1) + 1)) (xs ((i1) + 2))).2.1, (s_X11_award F M (xs ((i1) + 1)) (xs ((i1) + 2))).2.2, _, rl, ad, k_award (xs ((i1) + 1)) (xs ((i1) + 2)) hv.1 hv.2, rfl, fun r => (hrl r).trans (v_award F M (xs ((i1) + 1)) (xs ((i1) + 2)) r).symm, hPX, hDX, hPR, dR hD2, hS, hAR⟩ (lv_sub hl [0, 1, 2, 3] rfl)

set_option maxHeartbeats 4000000 in
set_option maxRecDepth 100000 in
theorem lc_medals {p : Program} {l : Launch} {e : Env} {s : State} {m : MethodId} {below : List Frame} {meth : Method} {c : Code} {dC : Nat → ClassId} {dI : Nat → Nat → Nat} {cy : Nat → ClassId} {cI cB cZ : ClassId} {h : Nat} {a : Nat → Nat} {b L : Nat} {xs : Nat → Int32} (hL : L ≤ 3584) (C0 : lw_At p s m meth c b L xs) (hSt : lS s dC dI cy cI cB cZ) (k i1 : Nat) (hik : i1 = 7 * k) (hi7 : i1 + 7 ≤ L) (qx : Nat) (H : Heap) (locs : List Loc) (hv9 : lI s dC dI cy cI cB cZ h a qx H locs) (ls : Array Slot) (hl : lv_has ls 4 [(0, .ref b), (1, .ref qx), (2, .ref h), (3, .int (nI i1))])
    (KK : ∀ (H1 : Heap) (locs1 : List Loc) (ls1 : Array Slot), lI s dC dI cy cI cB cZ h a qx H1 locs1 → lv_has ls1 4 [(0, .ref b), (1, .ref qx), (2, .ref h), (3, .int (nI i1))] → W p l e room_1 s m #[Value.ref b] below meth c H1 locs1 (100 + 2 * (k + 1)) (3000 + 12 * (k + 1)) (lw_Z below #[Value.ref b] s) (F0 m 1452 ls1 [])) :
    W p l e room_1 s m #[Value.ref b] below meth c H locs (100 + 2 * k) (3000 + 12 * k) (lw_Z below #[Value.ref b] s) (F0 m 1013 ls []) := by
  obtain ⟨hx, hb, hr, hml, hown, hts0, hX, hbl, hlocks, hgv⟩ := C0
  obtain ⟨hK, hN, hK3, hO4⟩ := hSt
  obtain ⟨F, M, Y, rl, ad, hv, hq, hrl, hPX, hDX, hPR, hDR, hS, hAR⟩ := hv9
  subst hq
  have hts : ∀ w ∈ wsL_law, w.before #[Value.ref b] s = true := fun w hw => hts0 w (wsL_law_in w hw)
  replace hown : s.vm.findClass RL = some m.cls := hown
  have hbA : ¬ A0 s b := Nat.not_le.mpr hbl
  refine lv_aload_n hx hb dL_law_1013 rfl (lv_at hl 1 rfl) ?_
  refine lv_aload_n hx hb dL_law_1014 rfl (lv_at hl 0 rfl) ?_
  refine lv_iload_n hx hb dL_law_1015 rfl (lv_at hl 3 rfl) ?_
  refine lv_iconst (v := 1) hx hb dL_law_1016 (by decide) ?_
  refine lv_iadd hx hb dL_law_1017 ?_
  refine va_sld hx hb hX hbl hbA hS (nx_in (show (nI i1) + 1 = nI ((i1) + 1) from by show (nI i1) + nI 1 = _; simp only [nI_add, pk_mul]) (by omega) (by omega)) dL_law_1018 ?_
  rw [nx_cl (show (nI i1) + 1 = nI ((i1) + 1) from by show (nI i1) + nI 1 = _; simp only [nI_add, pk_mul]) (by omega)]
  refine lv_aload_n hx hb dL_law_1019 rfl (lv_at hl 0 rfl) ?_
  refine lv_iload_n hx hb dL_law_1020 rfl (lv_at hl 3 rfl) ?_
  refine lv_iconst (v := 2) hx hb dL_law_1021 (by decide) ?_
  refine lv_iadd hx hb dL_law_1022 ?_
  refine va_sld hx hb hX hbl hbA hS (nx_in (show (nI i1) + 2 = nI ((i1) + 2) from by show (nI i1) + nI 2 = _; simp only [nI_add, pk_mul]) (by omega) (by omega)) dL_law_1023 ?_
  rw [nx_cl (show (nI i1) + 2 = nI ((i1) + 2) from by show (nI i1) + nI 2 = _; simp only [nI_add, pk_mul]) (by omega)]
  refine vp_callSi (W.runV (As := [.int (xs ((i1) + 1)), .int (xs ((i1) + 2))]) (rest := []) ⟨hx, hb, hml, hown, hts⟩ (c_X10_medals l dC dI rl ad cy F M Y (xs ((i1) + 1)) (xs ((i1) + 2)) hrl hv.1 hv.2) (cwV 2 hts gL_law_X10_medals rfl rfl rfl (by decide +kernel) ⟨Nat.le_of_ble_eq_true rfl, Nat.le_of_ble_eq_true rfl⟩) ⟨pc_blind, rg_recv hK hPX ((hrl _).mpr (vd_9 (by decide))) (ci := 9) rfl en_9, fun U hU hW => ⟨rfl, by rw [hU]; exact hPX, va_K.moved hW.alike hK, nst_w hW hN⟩⟩ rfl rfl hl.1 rfl (lv_room (Nat.le_of_ble_eq_true rfl)) dL_law_1024 ⟨show 100 + 2 * k + 0 ≤ 600000 by omega, show 3000 + 12 * k + 0 ≤ 7302250 by omega⟩) (fun r hr9 => ?_)
  subst hr9
  refine lv_aload_n hx hb dL_law_1027 rfl (lv_at hl 2 rfl) ?_
  refine lv_aload_n hx hb dL_law_1028 rfl (lv_at hl 0 rfl) ?_
  refine lv_iload_n hx hb dL_law_1029 rfl (lv_at hl 3 rfl) ?_
  refine lv_iconst (v := 1) hx hb dL_law_1030 (by decide) ?_
  refine lv_iadd hx hb dL_law_1031 ?_
  refine va_sld hx hb hX hbl hbA hS (nx_in (show (nI i1) + 1 = nI ((i1) + 1) from by show (nI i1) + nI 1 = _; simp only [nI_add, pk_mul]) (by omega) (by omega)) dL_law_1032 ?_
  rw [nx_cl (show (nI i1) + 1 = nI ((i1) + 1) from by show (nI i1) + nI 1 = _; simp only [nI_add, pk_mul]) (by omega)]
  refine lv_aload_n hx hb dL_law_1033 rfl (lv_at hl 0 rfl) ?_
  refine lv_iload_n hx hb dL_law_1034 rfl (lv_at hl 3 rfl) ?_
  refine lv_iconst (v := 2) hx hb dL_law_1035 (by decide) ?_
  refine lv_iadd hx hb dL_law_1036 ?_
  refine va_sld hx hb hX hbl hbA hS (nx_in (show (nI i1) + 2 = nI ((i1) + 2) from by show (nI i1) + nI 2 = _; simp only [nI_add, pk_mul]) (by omega) (by omega)) dL_law_1037 ?_
  rw [nx_cl (show (nI i1) + 2 = nI ((i1) + 2) from by show (nI i1) + nI 2 = _; simp only [nI_add, pk_mul]) (by omega)]
  refine vp_callSi (W.runV (As := [.int (xs ((i1) + 1)), .int (xs ((i1) + 2))]) (rest := [.int (s_X11_medals F M (xs ((i1) + 1)) (xs ((i1) + 2)))]) ⟨hx, hb, hml, hown, hts⟩ (c_X11_medals l dC dI h a cI cB cZ F M (xs ((i1) + 1)) (xs ((i1) + 2)) hv.1) (cwV 2 hts gL_law_X11_medals rfl rfl rfl (by decide +kernel) ⟨Nat.le_of_ble_eq_true rfl, Nat.le_of_ble_eq_true rfl⟩) ⟨pm_blind, va_recv hK3 hPR (ci := 10) (q0 := 0) rfl rfl, fun U hU hW => ⟨rfl, by rw [hU]; exact hPR, va_K.moved hW.alike hK3⟩⟩ rfl rfl hl.1 rfl (lv_room (Nat.le_of_ble_eq_true rfl)) dL_law_1038 ⟨show 100 + 2 * k + 0 ≤ 600000 by omega, show 3000 + 12 * k + 0 ≤ 7302250 by omega⟩) (fun r hr9 => ?_)
  subst hr9
  refine lv_icmp_eq (tgt := 1452) hx hb dL_law_1041 (by decide) (fun _ => ?_) (fun c => absurd rfl c)
  refine W.widen (k := 100 + 2 * (k + 1)) (n := 3000 + 12 * (k + 1)) (by omega) (by omega) ?_
  exact KK H locs ls ⟨F, M, Y, rl, ad, hv, rfl, hrl, hPX, hDX, hPR, hDR, hS, hAR⟩ (lv_sub hl [0, 1, 2, 3] rfl)

set_option maxHeartbeats 4000000 in
set_option maxRecDepth 100000 in
theorem lc_stock {p : Program} {l : Launch} {e : Env} {s : State} {m : MethodId} {below : List Frame} {meth : Method} {c : Code} {dC : Nat → ClassId} {dI : Nat → Nat → Nat} {cy : Nat → ClassId} {cI cB cZ : ClassId} {h : Nat} {a : Nat → Nat} {b L : Nat} {xs : Nat → Int32} (hL : L ≤ 3584) (C0 : lw_At p s m meth c b L xs) (hSt : lS s dC dI cy cI cB cZ) (k i1 : Nat) (hik : i1 = 7 * k) (hi7 : i1 + 7 ≤ L) (qx : Nat) (H : Heap) (locs : List Loc) (hv9 : lI s dC dI cy cI cB cZ h a qx H locs) (ls : Array Slot) (hl : lv_has ls 4 [(0, .ref b), (1, .ref qx), (2, .ref h), (3, .int (nI i1))])
    (KK : ∀ (H1 : Heap) (locs1 : List Loc) (ls1 : Array Slot), lI s dC dI cy cI cB cZ h a qx H1 locs1 → lv_has ls1 4 [(0, .ref b), (1, .ref qx), (2, .ref h), (3, .int (nI i1))] → W p l e room_1 s m #[Value.ref b] below meth c H1 locs1 (100 + 2 * (k + 1)) (3000 + 12 * (k + 1)) (lw_Z below #[Value.ref b] s) (F0 m 1452 ls1 [])) :
    W p l e room_1 s m #[Value.ref b] below meth c H locs (100 + 2 * k) (3000 + 12 * k) (lw_Z below #[Value.ref b] s) (F0 m 1046 ls []) := by
  obtain ⟨hx, hb, hr, hml, hown, hts0, hX, hbl, hlocks, hgv⟩ := C0
  obtain ⟨hK, hN, hK3, hO4⟩ := hSt
  obtain ⟨F, M, Y, rl, ad, hv, hq, hrl, hPX, hDX, hPR, hDR, hS, hAR⟩ := hv9
  subst hq
  have hts : ∀ w ∈ wsL_law, w.before #[Value.ref b] s = true := fun w hw => hts0 w (wsL_law_in w hw)
  replace hown : s.vm.findClass RL = some m.cls := hown
  have hbA : ¬ A0 s b := Nat.not_le.mpr hbl
  refine lv_aload_n hx hb dL_law_1046 rfl (lv_at hl 1 rfl) ?_
  refine lv_aload_n hx hb dL_law_1047 rfl (lv_at hl 0 rfl) ?_
  refine lv_iload_n hx hb dL_law_1048 rfl (lv_at hl 3 rfl) ?_
  refine lv_iconst (v := 1) hx hb dL_law_1049 (by decide) ?_
  refine lv_iadd hx hb dL_law_1050 ?_
  refine va_sld hx hb hX hbl hbA hS (nx_in (show (nI i1) + 1 = nI ((i1) + 1) from by show (nI i1) + nI 1 = _; simp only [nI_add, pk_mul]) (by omega) (by omega)) dL_law_1051 ?_
  rw [nx_cl (show (nI i1) + 1 = nI ((i1) + 1) from by show (nI i1) + nI 1 = _; simp only [nI_add, pk_mul]) (by omega)]
  refine lv_aload_n hx hb dL_law_1052 rfl (lv_at hl 0 rfl) ?_
  refine lv_iload_n hx hb dL_law_1053 rfl (lv_at hl 3 rfl) ?_
  refine lv_iconst (v := 2) hx hb dL_law_1054 (by decide) ?_
  refine lv_iadd hx hb dL_law_1055 ?_
  refine va_sld hx hb hX hbl hbA hS (nx_in (show (nI i1) + 2 = nI ((i1) + 2) from by show (nI i1) + nI 2 = _; simp only [nI_add, pk_mul]) (by omega) (by omega)) dL_law_1056 ?_
  rw [nx_cl (show (nI i1) + 2 = nI ((i1) + 2) from by show (nI i1) + nI 2 = _; simp only [nI_add, pk_mul]) (by omega)]
  refine lv_aload_n hx hb dL_law_1057 rfl (lv_at hl 0 rfl) ?_
  refine lv_iload_n hx hb dL_law_1058 rfl (lv_at hl 3 rfl) ?_
  refine lv_iconst (v := 3) hx hb dL_law_1059 (by decide) ?_
  refine lv_iadd hx hb dL_law_1060 ?_
  refine va_sld hx hb hX hbl hbA hS (nx_in (show (nI i1) + 3 = nI ((i1) + 3) from by show (nI i1) + nI 3 = _; simp only [nI_add, pk_mul]) (by omega) (by omega)) dL_law_1061 ?_
  rw [nx_cl (show (nI i1) + 3 = nI ((i1) + 3) from by show (nI i1) + nI 3 = _; simp only [nI_add, pk_mul]) (by omega)]
  refine va_calli (va_runV (As := [.int (xs ((i1) + 1)), .int (xs ((i1) + 2)), .int (xs ((i1) + 3))]) (rest := []) ⟨hx, hb, hml, hown, hts⟩ (c_X10_stock l dC dI rl ad cy F M Y (xs ((i1) + 1)) (xs ((i1) + 2)) (xs ((i1) + 3)) hrl hv.1 hv.2 (AX s h a) hDX) (cwV 3 hts gL_law_X10_stock rfl rfl rfl (by decide +kernel) ⟨Nat.le_of_ble_eq_true rfl, Nat.le_of_ble_eq_true rfl⟩) ⟨pc_blind, rg_recv hK hPX ((hrl _).mpr (vd_9 (by decide))) (ci := 9) rfl en_9, fun U hU hW => ⟨rfl, by rw [hU]; exact hPX, va_K.moved hW.alike hK, nst_w hW hN⟩⟩ rfl rfl hl.1 rfl (lv_room (Nat.le_of_ble_eq_true rfl)) dL_law_1062 ⟨show 100 + 2 * k + 0 ≤ 600000 by omega, show 3000 + 12 * k + 0 ≤ 7302250 by omega⟩) hS (fun q _ h => h.1) (fun q h => h.1) (fun r u t H1 locs ht hvm hw hB hz1 hk1 hS => ?_)
  subst hw
  obtain ⟨⟨hP1, -, -⟩, hD1⟩ := hB
  rw [ht] at hP1
  replace hPR := wk hPR (fun k q hk => hk1 q.1 (hPR k q hk).lt (fun z => z.2 (hDR.2 k q hk)))
  refine lv_aload_n hx hb dL_law_1065 rfl (lv_at hl 2 rfl) ?_
  refine lv_aload_n hx hb dL_law_1066 rfl (lv_at hl 0 rfl) ?_
  refine lv_iload_n hx hb dL_law_1067 rfl (lv_at hl 3 rfl) ?_
  refine lv_iconst (v := 1) hx hb dL_law_1068 (by decide) ?_
  refine lv_iadd hx hb dL_law_1069 ?_
  refine va_sld hx hb hX hbl hbA hS (nx_in (show (nI i1) + 1 = nI ((i1) + 1) from by show (nI i1) + nI 1 = _; simp only [nI_add, pk_mul]) (by omega) (by omega)) dL_law_1070 ?_
  rw [nx_cl (show (nI i1) + 1 = nI ((i1) + 1) from by show (nI i1) + nI 1 = _; simp only [nI_add, pk_mul]) (by omega)]
  refine lv_aload_n hx hb dL_law_1071 rfl (lv_at hl 0 rfl) ?_
  refine lv_iload_n hx hb dL_law_1072 rfl (lv_at hl 3 rfl) ?_
  refine lv_iconst (v := 2) hx hb dL_law_1073 (by decide) ?_
  refine lv_iadd hx hb dL_law_1074 ?_
  refine va_sld hx hb hX hbl hbA hS (nx_in (show (nI i1) + 2 = nI ((i1) + 2) from by show (nI i1) + nI 2 = _; simp only [nI_add, pk_mul]) (by omega) (by omega)) dL_law_1075 ?_
  rw [nx_cl (show (nI i1) + 2 = nI ((i1) + 2) from by show (nI i1) + nI 2 = _; simp only [nI_add, pk_mul]) (by omega)]
  refine lv_aload_n hx hb dL_law_1076 rfl (lv_at hl 0 rfl) ?_
  refine lv_iload_n hx hb dL_law_1077 rfl (lv_at hl 3 rfl) ?_
  refine lv_iconst (v := 3) hx hb dL_law_1078 (by decide) ?_
  refine lv_iadd hx hb dL_law_1079 ?_
  refine va_sld hx hb hX hbl hbA hS (nx_in (show (nI i1) + 3 = nI ((i1) + 3) from by show (nI i1) + nI 3 = _; simp only [nI_add, pk_mul]) (by omega) (by omega)) dL_law_1080 ?_
  rw [nx_cl (show (nI i1) + 3 = nI ((i1) + 3) from by show (nI i1) + nI 3 = _; simp only [nI_add, pk_mul]) (by omega)]
  refine va_calli (va_runV (As := [.int (xs ((i1) + 1)), .int (xs ((i1) + 2)), .int (xs ((i1) + 3))]) (rest := [.int ((s_X11_stock F M (xs ((i1) + 1)) (xs ((i1) + 2)) (xs ((i1) + 3))).1)]) ⟨hx, hb, hml, hown, hts⟩ (c_X11_stock l dC dI h a cI cB cZ F M (xs ((i1) + 1)) (xs ((i1) + 2)) (xs ((i1) + 3)) (AR h a) hDR) (cwV 3 hts gL_law_X11_stock rfl rfl rfl (by decide +kernel) ⟨Nat.le_of_ble_eq_true rfl, Nat.le_of_ble_eq_true rfl⟩) ⟨pm_blind, va_recv hK3 hPR (ci := 10) (q0 := 0) rfl rfl, fun U hU hW => ⟨rfl, by rw [hU]; exact hPR, va_K.moved hW.alike hK3⟩⟩ rfl rfl hl.1 rfl (lv_room (Nat.le_of_ble_eq_true rfl)) dL_law_1081 ⟨show 100 + 2 * k + 0 + 0 ≤ 600000 by omega, show 3000 + 12 * k + 0 + 0 ≤ 7302250 by omega⟩) hS (fun q _ h => hAR q h) (fun q h => hAR q h) (fun r u t H2 locs ht hvm hw hB hz2 hk2 hS => ?_)
  obtain ⟨hr9, hu9⟩ : r = (s_X11_stock F M (xs ((i1) + 1)) (xs ((i1) + 2)) (xs ((i1) + 3))).1 ∧ u = (s_X11_stock F M (xs ((i1) + 1)) (xs ((i1) + 2)) (xs ((i1) + 3))).2 := ⟨congrArg Prod.fst hw, congrArg Prod.snd hw⟩
  subst hr9; subst hu9
  obtain ⟨⟨hP2, -⟩, hD2⟩ := hB
  rw [ht] at hP2
  have hPX := wk hP1 (fun k q hk => hk2 q.1 (hP1 k q hk).lt (hD1.2 k q hk).2)
  have hDX := hD1; have hPR := hP2
  refine lv_icmp_eq (tgt := 1452) hx hb dL_law_1084 (by decide) (fun _ => ?_) (fun c => absurd rfl c)
  refine W.widen (k := 100 + 2 * (k + 1)) (n := 3000 + 12 * (k + 1)) (by omega) (by omega) ?_
  exact KK _ _ _ ⟨(s_X11_stock F M (xs ((i1) + 1)) (xs ((i1) + 2)) (xs ((i1) + 3))).2.1, (s_X11_stock F M (xs ((i1) + 1)) (xs ((i1) + 2)) (xs ((i1) + 3))).2.2, _, rl, ad, k_stock (xs ((i1) + 1)) (xs ((i1) + 2)) (xs ((i1) + 3)) hv.1 hv.2, rfl, fun r => (hrl r).trans (v_stock F M (xs ((i1) + 1)) (xs ((i1) + 2)) (xs ((i1) + 3)) r).symm, hPX, hDX, hPR, dR hD2, hS, hAR⟩ (lv_sub hl [0, 1, 2, 3] rfl)

set_option maxHeartbeats 4000000 in
set_option maxRecDepth 100000 in
theorem lc_copies {p : Program} {l : Launch} {e : Env} {s : State} {m : MethodId} {below : List Frame} {meth : Method} {c : Code} {dC : Nat → ClassId} {dI : Nat → Nat → Nat} {cy : Nat → ClassId} {cI cB cZ : ClassId} {h : Nat} {a : Nat → Nat} {b L : Nat} {xs : Nat → Int32} (hL : L ≤ 3584) (C0 : lw_At p s m meth c b L xs) (hSt : lS s dC dI cy cI cB cZ) (k i1 : Nat) (hik : i1 = 7 * k) (hi7 : i1 + 7 ≤ L) (qx : Nat) (H : Heap) (locs : List Loc) (hv9 : lI s dC dI cy cI cB cZ h a qx H locs) (ls : Array Slot) (hl : lv_has ls 4 [(0, .ref b), (1, .ref qx), (2, .ref h), (3, .int (nI i1))])
    (KK : ∀ (H1 : Heap) (locs1 : List Loc) (ls1 : Array Slot), lI s dC dI cy cI cB cZ h a qx H1 locs1 → lv_has ls1 4 [(0, .ref b), (1, .ref qx), (2, .ref h), (3, .int (nI i1))] → W p l e room_1 s m #[Value.ref b] below meth c H1 locs1 (100 + 2 * (k + 1)) (3000 + 12 * (k + 1)) (lw_Z below #[Value.ref b] s) (F0 m 1452 ls1 [])) :
    W p l e room_1 s m #[Value.ref b] below meth c H locs (100 + 2 * k) (3000 + 12 * k) (lw_Z below #[Value.ref b] s) (F0 m 1089 ls []) := by
  obtain ⟨hx, hb, hr, hml, hown, hts0, hX, hbl, hlocks, hgv⟩ := C0
  obtain ⟨hK, hN, hK3, hO4⟩ := hSt
  obtain ⟨F, M, Y, rl, ad, hv, hq, hrl, hPX, hDX, hPR, hDR, hS, hAR⟩ := hv9
  subst hq
  have hts : ∀ w ∈ wsL_law, w.before #[Value.ref b] s = true := fun w hw => hts0 w (wsL_law_in w hw)
  replace hown : s.vm.findClass RL = some m.cls := hown
  have hbA : ¬ A0 s b := Nat.not_le.mpr hbl
  refine lv_aload_n hx hb dL_law_1089 rfl (lv_at hl 1 rfl) ?_
  refine lv_aload_n hx hb dL_law_1090 rfl (lv_at hl 0 rfl) ?_
  refine lv_iload_n hx hb dL_law_1091 rfl (lv_at hl 3 rfl) ?_
  refine lv_iconst (v := 1) hx hb dL_law_1092 (by decide) ?_
  refine lv_iadd hx hb dL_law_1093 ?_
  refine va_sld hx hb hX hbl hbA hS (nx_in (show (nI i1) + 1 = nI ((i1) + 1) from by show (nI i1) + nI 1 = _; simp only [nI_add, pk_mul]) (by omega) (by omega)) dL_law_1094 ?_
  rw [nx_cl (show (nI i1) + 1 = nI ((i1) + 1) from by show (nI i1) + nI 1 = _; simp only [nI_add, pk_mul]) (by omega)]
  refine lv_aload_n hx hb dL_law_1095 rfl (lv_at hl 0 rfl) ?_
  refine lv_iload_n hx hb dL_law_1096 rfl (lv_at hl 3 rfl) ?_
  refine lv_iconst (v := 2) hx hb dL_law_1097 (by decide) ?_
  refine lv_iadd hx hb dL_law_1098 ?_
  refine va_sld hx hb hX hbl hbA hS (nx_in (show (nI i1) + 2 = nI ((i1) + 2) from by show (nI i1) + nI 2 = _; simp only [nI_add, pk_mul]) (by omega) (by omega)) dL_law_1099 ?_
  rw [nx_cl (show (nI i1) + 2 = nI ((i1) + 2) from by show (nI i1) + nI 2 = _; simp only [nI_add, pk_mul]) (by omega)]
  refine vp_callSi (W.runV (As := [.int (xs ((i1) + 1)), .int (xs ((i1) + 2))]) (rest := []) ⟨hx, hb, hml, hown, hts⟩ (c_X10_copies l dC dI rl ad cy F M Y (xs ((i1) + 1)) (xs ((i1) + 2)) hrl hv.1 hv.2) (cwV 2 hts gL_law_X10_copies rfl rfl rfl (by decide +kernel) ⟨Nat.le_of_ble_eq_true rfl, Nat.le_of_ble_eq_true rfl⟩) ⟨pc_blind, rg_recv hK hPX ((hrl _).mpr (vd_9 (by decide))) (ci := 9) rfl en_9, fun U hU hW => ⟨rfl, by rw [hU]; exact hPX, va_K.moved hW.alike hK, nst_w hW hN⟩⟩ rfl rfl hl.1 rfl (lv_room (Nat.le_of_ble_eq_true rfl)) dL_law_1100 ⟨show 100 + 2 * k + 0 ≤ 600000 by omega, show 3000 + 12 * k + 0 ≤ 7302250 by omega⟩) (fun r hr9 => ?_)
  subst hr9
  refine lv_aload_n hx hb dL_law_1103 rfl (lv_at hl 2 rfl) ?_
  refine lv_aload_n hx hb dL_law_1104 rfl (lv_at hl 0 rfl) ?_
  refine lv_iload_n hx hb dL_law_1105 rfl (lv_at hl 3 rfl) ?_
  refine lv_iconst (v := 1) hx hb dL_law_1106 (by decide) ?_
  refine lv_iadd hx hb dL_law_1107 ?_
  refine va_sld hx hb hX hbl hbA hS (nx_in (show (nI i1) + 1 = nI ((i1) + 1) from by show (nI i1) + nI 1 = _; simp only [nI_add, pk_mul]) (by omega) (by omega)) dL_law_1108 ?_
  rw [nx_cl (show (nI i1) + 1 = nI ((i1) + 1) from by show (nI i1) + nI 1 = _; simp only [nI_add, pk_mul]) (by omega)]
  refine lv_aload_n hx hb dL_law_1109 rfl (lv_at hl 0 rfl) ?_
  refine lv_iload_n hx hb dL_law_1110 rfl (lv_at hl 3 rfl) ?_
  refine lv_iconst (v := 2) hx hb dL_law_1111 (by decide) ?_
  refine lv_iadd hx hb dL_law_1112 ?_
  refine va_sld hx hb hX hbl hbA hS (nx_in (show (nI i1) + 2 = nI ((i1) + 2) from by show (nI i1) + nI 2 = _; simp only [nI_add, pk_mul]) (by omega) (by omega)) dL_law_1113 ?_
  rw [nx_cl (show (nI i1) + 2 = nI ((i1) + 2) from by show (nI i1) + nI 2 = _; simp only [nI_add, pk_mul]) (by omega)]
  refine vp_callSi (W.runV (As := [.int (xs ((i1) + 1)), .int (xs ((i1) + 2))]) (rest := [.int (s_X11_copies F M (xs ((i1) + 1)) (xs ((i1) + 2)))]) ⟨hx, hb, hml, hown, hts⟩ (c_X11_copies l dC dI h a cI cB cZ F M (xs ((i1) + 1)) (xs ((i1) + 2))) (cwV 2 hts gL_law_X11_copies rfl rfl rfl (by decide +kernel) ⟨Nat.le_of_ble_eq_true rfl, Nat.le_of_ble_eq_true rfl⟩) ⟨pm_blind, va_recv hK3 hPR (ci := 10) (q0 := 0) rfl rfl, fun U hU hW => ⟨rfl, by rw [hU]; exact hPR, va_K.moved hW.alike hK3⟩⟩ rfl rfl hl.1 rfl (lv_room (Nat.le_of_ble_eq_true rfl)) dL_law_1114 ⟨show 100 + 2 * k + 0 ≤ 600000 by omega, show 3000 + 12 * k + 0 ≤ 7302250 by omega⟩) (fun r hr9 => ?_)
  subst hr9
  refine lv_icmp_eq (tgt := 1452) hx hb dL_law_1117 (by decide) (fun _ => ?_) (fun c => absurd rfl c)
  refine W.widen (k := 100 + 2 * (k + 1)) (n := 3000 + 12 * (k + 1)) (by omega) (by omega) ?_
  exact KK H locs ls ⟨F, M, Y, rl, ad, hv, rfl, hrl, hPX, hDX, hPR, hDR, hS, hAR⟩ (lv_sub hl [0, 1, 2, 3] rfl)
