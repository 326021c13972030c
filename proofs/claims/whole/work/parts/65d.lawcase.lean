set_option maxHeartbeats 4000000 in
set_option maxRecDepth 100000 in
theorem lc_sheet {p : Program} {l : Launch} {e : Env} {s : State} {m : MethodId} {below : List Frame} {meth : Method} {c : Code} {dC : Nat → ClassId} {dI : Nat → Nat → Nat} {cy : Nat → ClassId} {cI cB cZ : ClassId} {h : Nat} {a : Nat → Nat} {b L : Nat} {xs : Nat → Int32} (hL : L ≤ 3584) (C0 : lw_At p s m meth c b L xs) (hSt : lS s dC dI cy cI cB cZ) (k i1 : Nat) (hik : i1 = 7 * k) (hi7 : i1 + 7 ≤ L) (qx : Nat) (H : Heap) (locs : List Loc) (hv9 : lI s dC dI cy cI cB cZ h a qx H locs) (ls : Array Slot) (hl : lv_has ls 4 [(0, .ref b), (1, .ref qx), (2, .ref h), (3, .int (nI i1))])
    (KK : ∀ (H1 : Heap) (locs1 : List Loc) (ls1 : Array Slot), lI s dC dI cy cI cB cZ h a qx H1 locs1 → lv_has ls1 4 [(0, .ref b), (1, .ref qx), (2, .ref h), (3, .int (nI i1))] → W p l e room_1 s m #[Value.ref b] below meth c H1 locs1 (100 + 2 * (k + 1)) (3000 + 12 * (k + 1)) (lw_Z below #[Value.ref b] s) (F0 m 1452 ls1 [])) :
    W p l e room_1 s m #[Value.ref b] below meth c H locs (100 + 2 * k) (3000 + 12 * k) (lw_Z below #[Value.ref b] s) (F0 m 1122 ls []) := by
  obtain ⟨hx, hb, hr, hml, hown, hts0, hX, hbl, hlocks, hgv⟩ := C0
  obtain ⟨hK, hN, hK3, hO4⟩ := hSt
  obtain ⟨F, M, Y, rl, ad, hv, hq, hrl, hPX, hDX, hPR, hDR, hS, hAR⟩ := hv9
  subst hq
  have hts : ∀ w ∈ wsL_law, w.before #[Value.ref b] s = true := fun w hw => hts0 w (wsL_law_in w hw)
  replace hown : s.vm.findClass RL = some m.cls := hown
  have hbA : ¬ A0 s b := Nat.not_le.mpr hbl
  refine lv_aload_n hx hb dL_law_1122 rfl (lv_at hl 1 rfl) ?_
  refine lv_aload_n hx hb dL_law_1123 rfl (lv_at hl 0 rfl) ?_
  refine lv_iload_n hx hb dL_law_1124 rfl (lv_at hl 3 rfl) ?_
  refine lv_iconst (v := 1) hx hb dL_law_1125 (by decide) ?_
  refine lv_iadd hx hb dL_law_1126 ?_
  refine va_sld hx hb hX hbl hbA hS (nx_in (show (nI i1) + 1 = nI ((i1) + 1) from by show (nI i1) + nI 1 = _; simp only [nI_add, pk_mul]) (by omega) (by omega)) dL_law_1127 ?_
  rw [nx_cl (show (nI i1) + 1 = nI ((i1) + 1) from by show (nI i1) + nI 1 = _; simp only [nI_add, pk_mul]) (by omega)]
  refine lv_aload_n hx hb dL_law_1128 rfl (lv_at hl 0 rfl) ?_
  refine lv_iload_n hx hb dL_law_1129 rfl (lv_at hl 3 rfl) ?_
  refine lv_iconst (v := 2) hx hb dL_law_1130 (by decide) ?_
  refine lv_iadd hx hb dL_law_1131 ?_
  refine va_sld hx hb hX hbl hbA hS (nx_in (show (nI i1) + 2 = nI ((i1) + 2) from by show (nI i1) + nI 2 = _; simp only [nI_add, pk_mul]) (by omega) (by omega)) dL_law_1132 ?_
  rw [nx_cl (show (nI i1) + 2 = nI ((i1) + 2) from by show (nI i1) + nI 2 = _; simp only [nI_add, pk_mul]) (by omega)]
  refine va_calli (va_runV (As := [.int (xs ((i1) + 1)), .int (xs ((i1) + 2))]) (rest := []) ⟨hx, hb, hml, hown, hts⟩ (c_X10_sheet l dC dI rl ad cy F M Y (xs ((i1) + 1)) (xs ((i1) + 2)) hrl hv.1 hv.2 (AX s h a) hDX) (cwV 2 hts gL_law_X10_sheet rfl rfl rfl (by decide +kernel) ⟨Nat.le_of_ble_eq_true rfl, Nat.le_of_ble_eq_true rfl⟩) ⟨pc_blind, rg_recv hK hPX ((hrl _).mpr (vd_9 (by decide))) (ci := 9) rfl en_9, fun U hU hW => ⟨rfl, by rw [hU]; exact hPX, va_K.moved hW.alike hK, nst_w hW hN⟩⟩ rfl rfl hl.1 rfl (lv_room (Nat.le_of_ble_eq_true rfl)) dL_law_1133 ⟨show 100 + 2 * k + 0 ≤ 600000 by omega, show 3000 + 12 * k + 0 ≤ 7302250 by omega⟩) hS (fun q _ h => h.1) (fun q h => h.1) (fun r u t H1 locs ht hvm hw hB hz1 hk1 hS => ?_)
  subst hw
  obtain ⟨⟨hP1, -, -⟩, hD1⟩ := hB
  rw [ht] at hP1
  replace hPR := wk hPR (fun k q hk => hk1 q.1 (hPR k q hk).lt (fun z => z.2 (hDR.2 k q hk)))
  refine lv_aload_n hx hb dL_law_1136 rfl (lv_at hl 2 rfl) ?_
  refine lv_aload_n hx hb dL_law_1137 rfl (lv_at hl 0 rfl) ?_
  refine lv_iload_n hx hb dL_law_1138 rfl (lv_at hl 3 rfl) ?_
  refine lv_iconst (v := 1) hx hb dL_law_1139 (by decide) ?_
  refine lv_iadd hx hb dL_law_1140 ?_
  refine va_sld hx hb hX hbl hbA hS (nx_in (show (nI i1) + 1 = nI ((i1) + 1) from by show (nI i1) + nI 1 = _; simp only [nI_add, pk_mul]) (by omega) (by omega)) dL_law_1141 ?_
  rw [nx_cl (show (nI i1) + 1 = nI ((i1) + 1) from by show (nI i1) + nI 1 = _; simp only [nI_add, pk_mul]) (by omega)]
  refine lv_aload_n hx hb dL_law_1142 rfl (lv_at hl 0 rfl) ?_
  refine lv_iload_n hx hb dL_law_1143 rfl (lv_at hl 3 rfl) ?_
  refine lv_iconst (v := 2) hx hb dL_law_1144 (by decide) ?_
  refine lv_iadd hx hb dL_law_1145 ?_
  refine va_sld hx hb hX hbl hbA hS (nx_in (show (nI i1) + 2 = nI ((i1) + 2) from by show (nI i1) + nI 2 = _; simp only [nI_add, pk_mul]) (by omega) (by omega)) dL_law_1146 ?_
  rw [nx_cl (show (nI i1) + 2 = nI ((i1) + 2) from by show (nI i1) + nI 2 = _; simp only [nI_add, pk_mul]) (by omega)]
  refine va_calli (va_runV (As := [.int (xs ((i1) + 1)), .int (xs ((i1) + 2))]) (rest := [.int ((s_X11_sheet F M (xs ((i1) + 1)) (xs ((i1) + 2))).1)]) ⟨hx, hb, hml, hown, hts⟩ (c_X11_sheet l dC dI h a cI cB cZ F M (xs ((i1) + 1)) (xs ((i1) + 2)) (AR h a) hDR) (cwV 2 hts gL_law_X11_sheet rfl rfl rfl (by decide +kernel) ⟨Nat.le_of_ble_eq_true rfl, Nat.le_of_ble_eq_true rfl⟩) ⟨pm_blind, va_recv hK3 hPR (ci := 10) (q0 := 0) rfl rfl, fun U hU hW => ⟨rfl, by rw [hU]; exact hPR, va_K.moved hW.alike hK3⟩⟩ rfl rfl hl.1 rfl (lv_room (Nat.le_of_ble_eq_true rfl)) dL_law_1147 ⟨show 100 + 2 * k + 0 + 0 ≤ 600000 by omega, show 3000 + 12 * k + 0 + 0 ≤ 7302250 by omega⟩) hS (fun q _ h => hAR q h) (fun q h => hAR q h) (fun r u t H2 locs ht hvm hw hB hz2 hk2 hS => ?_)
  obtain ⟨hr9, hu9⟩ : r = (s_X11_sheet F M (xs ((i1) + 1)) (xs ((i1) + 2))).1 ∧ u = (s_X11_sheet F M (xs ((i1) + 1)) (xs ((i1) + 2))).2 := ⟨congrArg Prod.fst hw, congrArg Prod.snd hw⟩
  subst hr9; subst hu9
  obtain ⟨⟨hP2, -⟩, hD2⟩ := hB
  rw [ht] at hP2
  have hPX := wk hP1 (fun k q hk => hk2 q.1 (hP1 k q hk).lt (hD1.2 k q hk).2)
  have hDX := hD1; have hPR := hP2
  refine lv_icmp_eq (tgt := 1452) hx hb dL_law_1150 (by decide) (fun _ => ?_) (fun c => absurd rfl c)
  refine W.widen (k := 100 + 2 * (k + 1)) (n := 3000 + 12 * (k + 1)) (by omega) (by omega) ?_
  exact KK _ _ _ ⟨(s_X11_sheet F M (xs ((i1) + 1)) (xs ((i1) + 2))).2.1, (s_X11_sheet F M (xs ((i1) + 1)) (xs ((i1) + 2))).2.2, _, rl, ad, k_sheet (xs ((i1) + 1)) (xs ((i1) + 2)) hv.1 hv.2, rfl, fun r => (hrl r).trans (v_sheet F M (xs ((i1) + 1)) (xs ((i1) + 2)) r).symm, hPX, hDX, hPR, dR hD2, hS, hAR⟩ (lv_sub hl [0, 1, 2, 3] rfl)

set_option maxHeartbeats 4000000 in
set_option maxRecDepth 100000 in
theorem lc_lay {p : Program} {l : Launch} {e : Env} {s : State} {m : MethodId} {below : List Frame} {meth : Method} {c : Code} {dC : Nat → ClassId} {dI : Nat → Nat → Nat} {cy : Nat → ClassId} {cI cB cZ : ClassId} {h : Nat} {a : Nat → Nat} {b L : Nat} {xs : Nat → Int32} (hL : L ≤ 3584) (C0 : lw_At p s m meth c b L xs) (hSt : lS s dC dI cy cI cB cZ) (k i1 : Nat) (hik : i1 = 7 * k) (hi7 : i1 + 7 ≤ L) (qx : Nat) (H : Heap) (locs : List Loc) (hv9 : lI s dC dI cy cI cB cZ h a qx H locs) (ls : Array Slot) (hl : lv_has ls 4 [(0, .ref b), (1, .ref qx), (2, .ref h), (3, .int (nI i1))])
    (KK : ∀ (H1 : Heap) (locs1 : List Loc) (ls1 : Array Slot), lI s dC dI cy cI cB cZ h a qx H1 locs1 → lv_has ls1 4 [(0, .ref b), (1, .ref qx), (2, .ref h), (3, .int (nI i1))] → W p l e room_1 s m #[Value.ref b] below meth c H1 locs1 (100 + 2 * (k + 1)) (3000 + 12 * (k + 1)) (lw_Z below #[Value.ref b] s) (F0 m 1452 ls1 [])) :
    W p l e room_1 s m #[Value.ref b] below meth c H locs (100 + 2 * k) (3000 + 12 * k) (lw_Z below #[Value.ref b] s) (F0 m 1155 ls []) := by
  obtain ⟨hx, hb, hr, hml, hown, hts0, hX, hbl, hlocks, hgv⟩ := C0
  obtain ⟨hK, hN, hK3, hO4⟩ := hSt
  obtain ⟨F, M, Y, rl, ad, hv, hq, hrl, hPX, hDX, hPR, hDR, hS, hAR⟩ := hv9
  subst hq
  have hts : ∀ w ∈ wsL_law, w.before #[Value.ref b] s = true := fun w hw => hts0 w (wsL_law_in w hw)
  replace hown : s.vm.findClass RL = some m.cls := hown
  have hbA : ¬ A0 s b := Nat.not_le.mpr hbl
  refine lv_aload_n hx hb dL_law_1155 rfl (lv_at hl 1 rfl) ?_
  refine lv_aload_n hx hb dL_law_1156 rfl (lv_at hl 0 rfl) ?_
  refine lv_iload_n hx hb dL_law_1157 rfl (lv_at hl 3 rfl) ?_
  refine lv_iconst (v := 1) hx hb dL_law_1158 (by decide) ?_
  refine lv_iadd hx hb dL_law_1159 ?_
  refine va_sld hx hb hX hbl hbA hS (nx_in (show (nI i1) + 1 = nI ((i1) + 1) from by show (nI i1) + nI 1 = _; simp only [nI_add, pk_mul]) (by omega) (by omega)) dL_law_1160 ?_
  rw [nx_cl (show (nI i1) + 1 = nI ((i1) + 1) from by show (nI i1) + nI 1 = _; simp only [nI_add, pk_mul]) (by omega)]
  refine lv_aload_n hx hb dL_law_1161 rfl (lv_at hl 0 rfl) ?_
  refine lv_iload_n hx hb dL_law_1162 rfl (lv_at hl 3 rfl) ?_
  refine lv_iconst (v := 2) hx hb dL_law_1163 (by decide) ?_
  refine lv_iadd hx hb dL_law_1164 ?_
  refine va_sld hx hb hX hbl hbA hS (nx_in (show (nI i1) + 2 = nI ((i1) + 2) from by show (nI i1) + nI 2 = _; simp only [nI_add, pk_mul]) (by omega) (by omega)) dL_law_1165 ?_
  rw [nx_cl (show (nI i1) + 2 = nI ((i1) + 2) from by show (nI i1) + nI 2 = _; simp only [nI_add, pk_mul]) (by omega)]
  refine lv_aload_n hx hb dL_law_1166 rfl (lv_at hl 0 rfl) ?_
  refine lv_iload_n hx hb dL_law_1167 rfl (lv_at hl 3 rfl) ?_
  refine lv_iconst (v := 3) hx hb dL_law_1168 (by decide) ?_
  refine lv_iadd hx hb dL_law_1169 ?_
  refine va_sld hx hb hX hbl hbA hS (nx_in (show (nI i1) + 3 = nI ((i1) + 3) from by show (nI i1) + nI 3 = _; simp only [nI_add, pk_mul]) (by omega) (by omega)) dL_law_1170 ?_
  rw [nx_cl (show (nI i1) + 3 = nI ((i1) + 3) from by show (nI i1) + nI 3 = _; simp only [nI_add, pk_mul]) (by omega)]
  refine va_calli (va_runV (As := [.int (xs ((i1) + 1)), .int (xs ((i1) + 2)), .int (xs ((i1) + 3))]) (rest := []) ⟨hx, hb, hml, hown, hts⟩ (c_X10_lay l dC dI rl ad cy F M Y (xs ((i1) + 1)) (xs ((i1) + 2)) (xs ((i1) + 3)) hrl hv.1 hv.2 (AX s h a) hDX) (cwV 3 hts gL_law_X10_lay rfl rfl rfl (by decide +kernel) ⟨Nat.le_of_ble_eq_true rfl, Nat.le_of_ble_eq_true rfl⟩) ⟨pc_blind, rg_recv hK hPX ((hrl _).mpr (vd_9 (by decide))) (ci := 9) rfl en_9, fun U hU hW => ⟨rfl, by rw [hU]; exact hPX, va_K.moved hW.alike hK, nst_w hW hN⟩⟩ rfl rfl hl.1 rfl (lv_room (Nat.le_of_ble_eq_true rfl)) dL_law_1171 ⟨show 100 + 2 * k + 0 ≤ 600000 by omega, show 3000 + 12 * k + 0 ≤ 7302250 by omega⟩) hS (fun q _ h => h.1) (fun q h => h.1) (fun r u t H1 locs ht hvm hw hB hz1 hk1 hS => ?_)
  subst hw
  obtain ⟨⟨hP1, -, -⟩, hD1⟩ := hB
  rw [ht] at hP1
  replace hPR := wk hPR (fun k q hk => hk1 q.1 (hPR k q hk).lt (fun z => z.2 (hDR.2 k q hk)))
  refine lv_aload_n hx hb dL_law_1174 rfl (lv_at hl 2 rfl) ?_
  refine lv_aload_n hx hb dL_law_1175 rfl (lv_at hl 0 rfl) ?_
  refine lv_iload_n hx hb dL_law_1176 rfl (lv_at hl 3 rfl) ?_
  refine lv_iconst (v := 1) hx hb dL_law_1177 (by decide) ?_
  refine lv_iadd hx hb dL_law_1178 ?_
  refine va_sld hx hb hX hbl hbA hS (nx_in (show (nI i1) + 1 = nI ((i1) + 1) from by show (nI i1) + nI 1 = _; simp only [nI_add, pk_mul]) (by omega) (by omega)) dL_law_1179 ?_
  rw [nx_cl (show (nI i1) + 1 = nI ((i1) + 1) from by show (nI i1) + nI 1 = _; simp only [nI_add, pk_mul]) (by omega)]
  refine lv_aload_n hx hb dL_law_1180 rfl (lv_at hl 0 rfl) ?_
  refine lv_iload_n hx hb dL_law_1181 rfl (lv_at hl 3 rfl) ?_
  refine lv_iconst (v := 2) hx hb dL_law_1182 (by decide) ?_
  refine lv_iadd hx hb dL_law_1183 ?_
  refine va_sld hx hb hX hbl hbA hS (nx_in (show (nI i1) + 2 = nI ((i1) + 2) from by show (nI i1) + nI 2 = _; simp only [nI_add, pk_mul]) (by omega) (by omega)) dL_law_1184 ?_
  rw [nx_cl (show (nI i1) + 2 = nI ((i1) + 2) from by show (nI i1) + nI 2 = _; simp only [nI_add, pk_mul]) (by omega)]
  refine lv_aload_n hx hb dL_law_1185 rfl (lv_at hl 0 rfl) ?_
  refine lv_iload_n hx hb dL_law_1186 rfl (lv_at hl 3 rfl) ?_
  refine lv_iconst (v := 3) hx hb dL_law_1187 (by decide) ?_
  refine lv_iadd hx hb dL_law_1188 ?_
  refine va_sld hx hb hX hbl hbA hS (nx_in (show (nI i1) + 3 = nI ((i1) + 3) from by show (nI i1) + nI 3 = _; simp only [nI_add, pk_mul]) (by omega) (by omega)) dL_law_1189 ?_
  rw [nx_cl (show (nI i1) + 3 = nI ((i1) + 3) from by show (nI i1) + nI 3 = _; simp only [nI_add, pk_mul]) (by omega)]
  refine va_calli (va_runV (As := [.int (xs ((i1) + 1)), .int (xs ((i1) + 2)), .int (xs ((i1) + 3))]) (rest := [.int ((s_X11_lay F M (xs ((i1) + 1)) (xs ((i1) + 2)) (xs ((i1) + 3))).1)]) ⟨hx, hb, hml, hown, hts⟩ (c_X11_lay l dC dI h a cI cB cZ F M (xs ((i1) + 1)) (xs ((i1) + 2)) (xs ((i1) + 3)) (AR h a) hDR hv.1) (cwV 3 hts gL_law_X11_lay rfl rfl rfl (by decide +kernel) ⟨Nat.le_of_ble_eq_true rfl, Nat.le_of_ble_eq_true rfl⟩) ⟨pm_blind, va_recv hK3 hPR (ci := 10) (q0 := 0) rfl rfl, fun U hU hW => ⟨rfl, by rw [hU]; exact hPR, va_K.moved hW.alike hK3⟩⟩ rfl rfl hl.1 rfl (lv_room (Nat.le_of_ble_eq_true rfl)) dL_law_1190 ⟨show 100 + 2 * k + 0 + 0 ≤ 600000 by omega, show 3000 + 12 * k + 0 + 0 ≤ 7302250 by omega⟩) hS (fun q _ h => hAR q h) (fun q h => hAR q h) (fun r u t H2 locs ht hvm hw hB hz2 hk2 hS => ?_)
  obtain ⟨hr9, hu9⟩ : r = (s_X11_lay F M (xs ((i1) + 1)) (xs ((i1) + 2)) (xs ((i1) + 3))).1 ∧ u = (s_X11_lay F M (xs ((i1) + 1)) (xs ((i1) + 2)) (xs ((i1) + 3))).2 := ⟨congrArg Prod.fst hw, congrArg Prod.snd hw⟩
  subst hr9; subst hu9
  obtain ⟨⟨hP2, -⟩, hD2⟩ := hB
  rw [ht] at hP2
  have hPX := wk hP1 (fun k q hk => hk2 q.1 (hP1 k q hk).lt (hD1.2 k q hk).2)
  have hDX := hD1; have hPR := hP2
  refine lv_icmp_eq (tgt := 1452) hx hb dL_law_1193 (by decide) (fun _ => ?_) (fun c => absurd rfl c)
  refine W.widen (k := 100 + 2 * (k + 1)) (n := 3000 + 12 * (k + 1)) (by omega) (by omega) ?_
  exact KK _ _ _ ⟨(s_X11_lay F M (xs ((i1) + 1)) (xs ((i1) + 2)) (xs ((i1) + 3))).2.1, (s_X11_lay F M (xs ((i1) + 1)) (xs ((i1) + 2)) (xs ((i1) + 3))).2.2, _, rl, ad, k_lay (xs ((i1) + 1)) (xs ((i1) + 2)) (xs ((i1) + 3)) hv.1 hv.2, rfl, fun r => (hrl r).trans (v_lay F M (xs ((i1) + 1)) (xs ((i1) + 2)) (xs ((i1) + 3)) r).symm, hPX, hDX, hPR, dR hD2, hS, hAR⟩ (lv_sub hl [0, 1, 2, 3] rfl)

set_option maxHeartbeats 4000000 in
set_option maxRecDepth 100000 in
theorem lc_tear {p : Program} {l : Launch} {e : Env} {s : State} {m : MethodId} {below : List Frame} {meth : Method} {c : Code} {dC : Nat → ClassId} {dI : Nat → Nat → Nat} {cy : Nat → ClassId} {cI cB cZ : ClassId} {h : Nat} {a : Nat → Nat} {b L : Nat} {xs : Nat → Int32} (hL : L ≤ 3584) (C0 : lw_At p s m meth c b L xs) (hSt : lS s dC dI cy cI cB cZ) (k i1 : Nat) (hik : i1 = 7 * k) (hi7 : i1 + 7 ≤ L) (qx : Nat) (H : Heap) (locs : List Loc) (hv9 : lI s dC dI cy cI cB cZ h a qx H locs) (ls : Array Slot) (hl : lv_has ls 4 [(0, .ref b), (1, .ref qx), (2, .ref h), (3, .int (nI i1))])
    (KK : ∀ (H1 : Heap) (locs1 : List Loc) (ls1 : Array Slot), lI s dC dI cy cI cB cZ h a qx H1 locs1 → lv_has ls1 4 [(0, .ref b), (1, .ref qx), (2, .ref h), (3, .int (nI i1))] → W p l e room_1 s m #[Value.ref b] below meth c H1 locs1 (100 + 2 * (k + 1)) (3000 + 12 * (k + 1)) (lw_Z below #[Value.ref b] s) (F0 m 1452 ls1 [])) :
    W p l e room_1 s m #[Value.ref b] below meth c H locs (100 + 2 * k) (3000 + 12 * k) (lw_Z below #[Value.ref b] s) (F0 m 1198 ls []) := by
  obtain ⟨hx, hb, hr, hml, hown, hts0, hX, hbl, hlocks, hgv⟩ := C0
  obtain ⟨hK, hN, hK3, hO4⟩ := hSt
  obtain ⟨F, M, Y, rl, ad, hv, hq, hrl, hPX, hDX, hPR, hDR, hS, hAR⟩ := hv9
  subst hq
  have hts : ∀ w ∈ wsL_law, w.before #[Value.ref b] s = true := fun w hw => hts0 w (wsL_law_in w hw)
  replace hown : s.vm.findClass RL = some m.cls := hown
  have hbA : ¬ A0 s b := Nat.not_le.mpr hbl
  refine lv_aload_n hx hb dL_law_1198 rfl (lv_at hl 1 rfl) ?_
  refine lv_aload_n hx hb dL_law_1199 rfl (lv_at hl 0 rfl) ?_
  refine lv_iload_n hx hb dL_law_1200 rfl (lv_at hl 3 rfl) ?_
  refine lv_iconst (v := 1) hx hb dL_law_1201 (by decide) ?_
  refine lv_iadd hx hb dL_law_1202 ?_
  refine va_sld hx hb hX hbl hbA hS (nx_in (show (nI i1) + 1 = nI ((i1) + 1) from by show (nI i1) + nI 1 = _; simp only [nI_add, pk_mul]) (by omega) (by omega)) dL_law_1203 ?_
  rw [nx_cl (show (nI i1) + 1 = nI ((i1) + 1) from by show (nI i1) + nI 1 = _; simp only [nI_add, pk_mul]) (by omega)]
  refine va_calli (va_runV (As := [.int (xs ((i1) + 1))]) (rest := []) ⟨hx, hb, hml, hown, hts⟩ (c_X10_tear l dC dI rl ad cy F M Y (xs ((i1) + 1)) hrl hv.1 hv.2 (AX s h a) hDX) (cwV 1 hts gL_law_X10_tear rfl rfl rfl (by decide +kernel) ⟨Nat.le_of_ble_eq_true rfl, Nat.le_of_ble_eq_true rfl⟩) ⟨pc_blind, rg_recv hK hPX ((hrl _).mpr (vd_9 (by decide))) (ci := 9) rfl en_9, fun U hU hW => ⟨rfl, by rw [hU]; exact hPX, va_K.moved hW.alike hK, nst_w hW hN⟩⟩ rfl rfl hl.1 rfl (lv_room (Nat.le_of_ble_eq_true rfl)) dL_law_1204 ⟨show 100 + 2 * k + 0 ≤ 600000 by omega, show 3000 + 12 * k + 0 ≤ 7302250 by omega⟩) hS (fun q _ h => h.1) (fun q h => h.1) (fun r u t H1 locs ht hvm hw hB hz1 hk1 hS => ?_)
  subst hw
  obtain ⟨⟨hP1, -, -⟩, hD1⟩ := hB
  rw [ht] at hP1
  replace hPR := wk hPR (fun k q hk => hk1 q.1 (hPR k q hk).lt (fun z => z.2 (hDR.2 k q hk)))
  refine lv_aload_n hx hb dL_law_1207 rfl (lv_at hl 2 rfl) ?_
  refine lv_aload_n hx hb dL_law_1208 rfl (lv_at hl 0 rfl) ?_
  refine lv_iload_n hx hb dL_law_1209 rfl (lv_at hl 3 rfl) ?_
  refine lv_iconst (v := 1) hx hb dL_law_1210 (by decide) ?_
  refine lv_iadd hx hb dL_law_1211 ?_
  refine va_sld hx hb hX hbl hbA hS (nx_in (show (nI i1) + 1 = nI ((i1) + 1) from by show (nI i1) + nI 1 = _; simp only [nI_add, pk_mul]) (by omega) (by omega)) dL_law_1212 ?_
  rw [nx_cl (show (nI i1) + 1 = nI ((i1) + 1) from by show (nI i1) + nI 1 = _; simp only [nI_add, pk_mul]) (by omega)]
  refine va_calli (va_runV (As := [.int (xs ((i1) + 1))]) (rest := [.int ((s_X11_tear F M (xs ((i1) + 1))).1)]) ⟨hx, hb, hml, hown, hts⟩ (c_X11_tear l dC dI h a cI cB cZ F M (xs ((i1) + 1)) (AR h a) hDR) (cwV 1 hts gL_law_X11_tear rfl rfl rfl (by decide +kernel) ⟨Nat.le_of_ble_eq_true rfl, Nat.le_of_ble_eq_true rfl⟩) ⟨pm_blind, va_recv hK3 hPR (ci := 10) (q0 := 0) rfl rfl, fun U hU hW => ⟨rfl, by rw [hU]; exact hPR, va_K.moved hW.alike hK3⟩⟩ rfl rfl hl.1 rfl (lv_room (Nat.le_of_ble_eq_true rfl)) dL_law_1213 ⟨show 100 + 2 * k + 0 + 0 ≤ 600000 by omega, show 3000 + 12 * k + 0 + 0 ≤ 7302250 by omega⟩) hS (fun q _ h => hAR q h) (fun q h => hAR q h) (fun r u t H2 locs ht hvm hw hB hz2 hk2 hS => ?_)
  obtain ⟨hr9, hu9⟩ : r = (s_X11_tear F M (xs ((i1) + 1))).1 ∧ u = (s_X11_tear F M (xs ((i1) + 1))).2 := ⟨congrArg Prod.fst hw, congrArg Prod.snd hw⟩
  subst hr9; subst hu9
  obtain ⟨⟨hP2, -⟩, hD2⟩ := hB
  rw [ht] at hP2
  have hPX := wk hP1 (fun k q hk => hk2 q.1 (hP1 k q hk).lt (hD1.2 k q hk).2)
  have hDX := hD1; have hPR := hP2
  refine lv_icmp_eq (tgt := 1452) hx hb dL_law_1216 (by decide) (fun _ => ?_) (fun c => absurd rfl c)
  refine W.widen (k := 100 + 2 * (k + 1)) (n := 3000 + 12 * (k + 1)) (by omega) (by omega) ?_
  exact KK _ _ _ ⟨(s_X11_tear F M (xs ((i1) + 1))).2.1, (s_X11_tear F M (xs ((i1) + 1))).2.2, _, rl, ad, k_tear (xs ((i1) + 1)) hv.1 hv.2, rfl, fun r => (hrl r).trans (v_tear F M (xs ((i1) + 1)) r).symm, hPX, hDX, hPR, dR hD2, hS, hAR⟩ (lv_sub hl [0, 1, 2, 3] rfl)

set_option maxHeartbeats 4000000 in
set_option maxRecDepth 100000 in
theorem lc_copy {p : Program} {l : Launch} {e : Env} {s : State} {m : MethodId} {below : List Frame} {meth : Method} {c : Code} {dC : Nat → ClassId} {dI : Nat → Nat → Nat} {cy : Nat → ClassId} {cI cB cZ : ClassId} {h : Nat} {a : Nat → Nat} {b L : Nat} {xs : Nat → Int32} (hL : L ≤ 3584) (C0 : lw_At p s m meth c b L xs) (hSt : lS s dC dI cy cI cB cZ) (k i1 : Nat) (hik : i1 = 7 * k) (hi7 : i1 + 7 ≤ L) (qx : Nat) (H : Heap) (locs : List Loc) (hv9 : lI s dC dI cy cI cB cZ h a qx H locs) (ls : Array Slot) (hl : lv_has ls 4 [(0, .ref b), (1, .ref qx), (2, .ref h), (3, .int (nI i1))])
    (KK : ∀ (H1 : Heap) (locs1 : List Loc) (ls1 : Array Slot), lI s dC dI cy cI cB cZ h a qx H1 locs1 → lv_has ls1 4 [(0, .ref b), (1, .ref qx), (2, .ref h), (3, .int (nI i1))] → W p l e room_1 s m #[Value.ref b] below meth c H1 locs1 (100 + 2 * (k + 1)) (3000 + 12 * (k + 1)) (lw_Z below #[Value.ref b] s) (F0 m 1452 ls1 [])) :
    W p l e room_1 s m #[Value.ref b] below meth c H locs (100 + 2 * k) (3000 + 12 * k) (lw_Z below #[Value.ref b] s) (F0 m 1221 ls []) := by
  obtain ⟨hx, hb, hr, hml, hown, hts0, hX, hbl, hlocks, hgv⟩ := C0
  obtain ⟨hK, hN, hK3, hO4⟩ := hSt
  obtain ⟨F, M, Y, rl, ad, hv, hq, hrl, hPX, hDX, hPR, hDR, hS, hAR⟩ := hv9
  subst hq
  have hts : ∀ w ∈ wsL_law, w.before #[Value.ref b] s = true := fun w hw => hts0 w (wsL_law_in w hw)
  replace hown : s.vm.findClass RL = some m.cls := hown
  have hbA : ¬ A0 s b := Nat.not_le.mpr hbl
  refine lv_aload_n hx hb dL_law_1221 rfl (lv_at hl 1 rfl) ?_
  refine lv_aload_n hx hb dL_law_1222 rfl (lv_at hl 0 rfl) ?_
  refine lv_iload_n hx hb dL_law_1223 rfl (lv_at hl 3 rfl) ?_
  refine lv_iconst (v := 1) hx hb dL_law_1224 (by decide) ?_
  refine lv_iadd hx hb dL_law_1225 ?_
  refine va_sld hx hb hX hbl hbA hS (nx_in (show (nI i1) + 1 = nI ((i1) + 1) from by show (nI i1) + nI 1 = _; simp only [nI_add, pk_mul]) (by omega) (by omega)) dL_law_1226 ?_
  rw [nx_cl (show (nI i1) + 1 = nI ((i1) + 1) from by show (nI i1) + nI 1 = _; simp only [nI_add, pk_mul]) (by omega)]
  refine lv_aload_n hx hb dL_law_1227 rfl (lv_at hl 0 rfl) ?_
  refine lv_iload_n hx hb dL_law_1228 rfl (lv_at hl 3 rfl) ?_
  refine lv_iconst (v := 2) hx hb dL_law_1229 (by decide) ?_
  refine lv_iadd hx hb dL_law_1230 ?_
  refine va_sld hx hb hX hbl hbA hS (nx_in (show (nI i1) + 2 = nI ((i1) + 2) from by show (nI i1) + nI 2 = _; simp only [nI_add, pk_mul]) (by omega) (by omega)) dL_law_1231 ?_
  rw [nx_cl (show (nI i1) + 2 = nI ((i1) + 2) from by show (nI i1) + nI 2 = _; simp only [nI_add, pk_mul]) (by omega)]
  refine lv_aload_n hx hb dL_law_1232 rfl (lv_at hl 0 rfl) ?_
  refine lv_iload_n hx hb dL_law_1233 rfl (lv_at hl 3 rfl) ?_
  refine lv_iconst (v := 3) hx hb dL_law_1234 (by decide) ?_
  refine lv_iadd hx hb dL_law_1235 ?_
  refine va_sld hx hb hX hbl hbA hS (nx_in (show (nI i1) + 3 = nI ((i1) + 3) from by show (nI i1) + nI 3 = _; simp only [nI_add, pk_mul]) (by omega) (by omega)) dL_law_1236 ?_
  rw [nx_cl (show (nI i1) + 3 = nI ((i1) + 3) from by show (nI i1) + nI 3 = _; simp only [nI_add, pk_mul]) (by omega)]
  refine lv_aload_n hx hb dL_law_1237 rfl (lv_at hl 0 rfl) ?_
  refine lv_iload_n hx hb dL_law_1238 rfl (lv_at hl 3 rfl) ?_
  refine lv_iconst (v := 4) hx hb dL_law_1239 (by decide) ?_
  refine lv_iadd hx hb dL_law_1240 ?_
  refine va_sld hx hb hX hbl hbA hS (nx_in (show (nI i1) + 4 = nI ((i1) + 4) from by show (nI i1) + nI 4 = _; simp only [nI_add, pk_mul]) (by omega) (by omega)) dL_law_1241 ?_
  rw [nx_cl (show (nI i1) + 4 = nI ((i1) + 4) from by show (nI i1) + nI 4 = _; simp only [nI_add, pk_mul]) (by omega)]
  refine lv_aload_n hx hb dL_law_1242 rfl (lv_at hl 0 rfl) ?_
  refine lv_iload_n hx hb dL_law_1243 rfl (lv_at hl 3 rfl) ?_
  refine lv_iconst (v := 5) hx hb dL_law_1244 (by decide) ?_
  refine lv_iadd hx hb dL_law_1245 ?_
  refine va_sld hx hb hX hbl hbA hS (nx_in (show (nI i1) + 5 = nI ((i1) + 5) from by show (nI i1) + nI 5 = _; simp only [nI_add, pk_mul]) (by omega) (by omega)) dL_law_1246 ?_
  rw [nx_cl (show (nI i1) + 5 = nI ((i1) + 5) from by show (nI i1) + nI 5 = _; simp only [nI_add, pk_mul]) (by omega)]
  refine va_calli (va_runV (As := [.int (xs ((i1) + 1)), .int (xs ((i1) + 2)), .int (xs ((i1) + 3)), .int (xs ((i1) + 4)), .int (xs ((i1) + 5))]) (rest := []) ⟨hx, hb, hml, hown, hts⟩ (c_X10_copy l dC dI rl ad cy F M Y (xs ((i1) + 1)) (xs ((i1) + 2)) (xs ((i1) + 3)) (xs ((i1) + 4)) (xs ((i1) + 5)) hrl hv.1 hv.2 (AX s h a) hDX) (cwV 5 hts gL_law_X10_copy rfl rfl rfl (by decide +kernel) ⟨Nat.le_of_ble_eq_true rfl, Nat.le_of_ble_eq_true rfl⟩) ⟨pc_blind, rg_recv hK hPX ((hrl _).mpr (vd_9 (by decide))) (ci := 9) rfl en_9, fun U hU hW => ⟨rfl, by rw [hU]; exact hPX, va_K.moved hW.alike hK, nst_w hW hN⟩⟩ rfl rfl hl.1 rfl (lv_room (Nat.le_of_ble_eq_true rfl)) dL_law_1247 ⟨show 100 + 2 * k + 0 ≤ 600000 by omega, show 3000 + 12 * k + 0 ≤ 7302250 by omega⟩) hS (fun q _ h => h.1) (fun q h => h.1) (fun r u t H1 locs ht hvm hw hB hz1 hk1 hS => ?_)
  subst hw
  obtain ⟨⟨hP1, -, -⟩, hD1⟩ := hB
  rw [ht] at hP1
  replace hPR := wk hPR (fun k q hk => hk1 q.1 (hPR k q hk).lt (fun z => z.2 (hDR.2 k q hk)))
  refine lv_aload_n hx hb dL_law_1250 rfl (lv_at hl 2 rfl) ?_
  refine lv_aload_n hx hb dL_law_1251 rfl (lv_at hl 0 rfl) ?_
  refine lv_iload_n hx hb dL_law_1252 rfl (lv_at hl 3 rfl) ?_
  refine lv_iconst (v := 1) hx hb dL_law_1253 (by decide) ?_
  refine lv_iadd hx hb dL_law_1254 ?_
  refine va_sld hx hb hX hbl hbA hS (nx_in (show (nI i1) + 1 = nI ((i1) + 1) from by show (nI i1) + nI 1 = _; simp only [nI_add, pk_mul]) (by omega) (by omega)) dL_law_1255 ?_
  rw [nx_cl (show (nI i1) + 1 = nI ((i1) + 1) from by show (nI i1) + nI 1 = _; simp only [nI_add, pk_mul]) (by omega)]
  refine lv_aload_n hx hb dL_law_1256 rfl (lv_at hl 0 rfl) ?_
  refine lv_iload_n hx hb dL_law_1257 rfl (lv_at hl 3 rfl) ?_
  refine lv_iconst (v := 2) hx hb dL_law_1258 (by decide) ?_
  refine lv_iadd hx hb dL_law_1259 ?_
  refine va_sld hx hb hX hbl hbA hS (nx_in (show (nI i1) + 2 = nI ((i1) + 2) from by show (nI i1) + nI 2 = _; simp only [nI_add, pk_mul]) (by omega) (by omega)) dL_law_1260 ?_
  rw [nx_cl (show (nI i1) + 2 = nI ((i1) + 2) from by show (nI i1) + nI 2 = _; simp only [nI_add, pk_mul]) (by omega)]
  refine lv_aload_n hx hb dL_law_1261 rfl (lv_at hl 0 rfl) ?_
  refine lv_iload_n hx hb dL_law_1262 rfl (lv_at hl 3 rfl) ?_
  refine lv_iconst (v := 3) hx hb dL_law_1263 (by decide) ?_
  refine lv_iadd hx hb dL_law_1264 ?_
  refine va_sld hx hb hX hbl hbA hS (nx_in (show (nI i1) + 3 = nI ((i1) + 3) from by show (nI i1) + nI 3 = _; simp only [nI_add, pk_mul]) (by omega) (by omega)) dL_law_1265 ?_
  rw [nx_cl (show (nI i1) + 3 = nI ((i1) + 3) from by show (nI i1) + nI 3 = _; simp only [nI_add, pk_mul]) (by omega)]
  refine lv_aload_n hx hb dL_law_1266 rfl (lv_at hl 0 rfl) ?_
  refine lv_iload_n hx hb dL_law_1267 rfl (lv_at hl 3 rfl) ?_
  refine lv_iconst (v := 4) hx hb dL_law_1268 (by decide) ?_
  refine lv_iadd hx hb dL_law_1269 ?_
  refine va_sld hx hb hX hbl hbA hS (nx_in (show (nI i1) + 4 = nI ((i1) + 4) from by show (nI i1) + nI 4 = _; simp only [nI_add, pk_mul]) (by omega) (by omega)) dL_law_1270 ?_
  rw [nx_cl (show (nI i1) + 4 = nI ((i1) + 4) from by show (nI i1) + nI 4 = _; simp only [nI_add, pk_mul]) (by omega)]
  refine lv_aload_n hx hb dL_law_1271 rfl (lv_at hl 0 rfl) ?_
  refine lv_iload_n hx hb dL_law_1272 rfl (lv_at hl 3 rfl) ?_
  refine lv_iconst (v := 5) hx hb dL_law_1273 (by decide) ?_
  refine lv_iadd hx hb dL_law_1274 ?_
  refine va_sld hx hb hX hbl hbA hS (nx_in (show (nI i1) + 5 = nI ((i1) + 5) from by show (nI i1) + nI 5 = _; simp only [nI_add, pk_mul]) (by omega) (by omega)) dL_law_1275 ?_
  rw [nx_cl (show (nI i1) + 5 = nI ((i1) + 5) from by show (nI i1) + nI 5 = _; simp only [nI_add, pk_mul]) (by omega)]
  refine va_calli (va_runV (As := [.int (xs ((i1) + 1)), .int (xs ((i1) + 2)), .int (xs ((i1) + 3)), .int (xs ((i1) + 4)), .int (xs ((i1) + 5))]) (rest := [.int ((s_X11_copy F M (xs ((i1) + 1)) (xs ((i1) + 2)) (xs ((i1) + 3)) (xs ((i1) + 4)) (xs ((i1) + 5))).1)]) ⟨hx, hb, hml, hown, hts⟩ (c_X11_copy l dC dI h a cI cB cZ F M (xs ((i1) + 1)) (xs ((i1) + 2)) (xs ((i1) + 3)) (xs ((i1) + 4)) (xs ((i1) + 5)) (AR h a) hDR hv.1) (cwV 5 hts gL_law_X11_copy rfl rfl rfl (by decide +kernel) ⟨Nat.le_of_ble_eq_true rfl, Nat.le_of_ble_eq_true rfl⟩) ⟨pm_blind, va_recv hK3 hPR (ci := 10) (q0 := 0) rfl rfl, fun U hU hW => ⟨rfl, by rw [hU]; exact hPR, va_K.moved hW.alike hK3⟩⟩ rfl rfl hl.1 rfl (lv_room (Nat.le_of_ble_eq_true rfl)) dL_law_1276 ⟨show 100 + 2 * k + 0 + 0 ≤ 600000 by omega, show 3000 + 12 * k + 0 + 0 ≤ 7302250 by omega⟩) hS (fun q _ h => hAR q h) (fun q h => hAR q h) (fun r u t H2 locs ht hvm hw hB hz2 hk2 hS => ?_)
  obtain ⟨hr9, hu9⟩ : r = (s_X11_copy F M (xs ((i1) + 1)) (xs ((i1) + 2)) (xs ((i1) + 3)) (xs ((i1) + 4)) (xs ((i1) + 5))).1 ∧ u = (s_X11_copy F M (xs ((i1) + 1)) (xs ((i1) + 2)) (xs ((i1) + 3)) (xs ((i1) + 4)) (xs ((i1) + 5))).2 := ⟨congrArg Prod.fst hw, congrArg Prod.snd hw⟩
  subst hr9; subst hu9
  obtain ⟨⟨hP2, -⟩, hD2⟩ := hB
  rw [ht] at hP2
  have hPX := wk hP1 (fun k q hk => hk2 q.1 (hP1 k q hk).lt (hD1.2 k q hk).2)
  have hDX := hD1; have hPR := hP2
  refine lv_icmp_eq (tgt := 1452) hx hb dL_law_1279 (by decide) (fun _ => ?_) (fun c => absurd rfl c)
  refine W.widen (k := 100 + 2 * (k + 1)) (n := 3000 + 12 * (k + 1)) (by omega) (by omega) ?_
  exact KK _ _ _ ⟨(s_X11_copy F M (xs ((i1) + 1)) (xs ((i1) + 2)) (xs ((i1) + 3)) (xs ((i1) + 4)) (xs ((i1) + 5))).2.1, (s_X11_copy F M (xs ((i1) + 1)) (xs ((i1) + 2)) (xs ((i1) + 3)) (xs ((i1) + 4)) (xs ((i1) + 5))).2.2, _, rl, ad, k_copy (xs ((i1) + 1)) (xs ((i1) + 2)) (xs ((i1) + 3)) (xs ((i1) + 4)) (xs ((i1) + 5)) hv.1 hv.2, rfl, fun r => (hrl r).trans (v_copy F M (xs ((i1) + 1)) (xs ((i1) + 2)) (xs ((i1) + 3)) (xs ((i1) + 4)) (xs ((i1) + 5)) r).symm, hPX, hDX, hPR, dR hD2, hS, hAR⟩ (lv_sub hl [0, 1, 2, 3] rfl)

set_option maxHeartbeats 4000000 in
set_option maxRecDepth 100000 in
theorem lc_fill {p : Program} {l : Launch} {e : Env} {s : State} {m : MethodId} {below : List Frame} {meth : Method} {c : Code} {dC : Nat → ClassId} {dI : Nat → Nat → Nat} {cy : Nat → ClassId} {cI cB cZ : ClassId} {h : Nat} {a : Nat → Nat} {b L : Nat} {xs : Nat → Int32} (hL : L ≤ 3584) (C0 : lw_At p s m meth c b L xs) (hSt : lS s dC dI cy cI cB cZ) (k i1 : Nat) (hik : i1 = 7 * k) (hi7 : i1 + 7 ≤ L) (qx : Nat) (H : Heap) (locs : List Loc) (hv9 : lI s dC dI cy cI cB cZ h a qx H locs) (ls : Array Slot) (hl : lv_has ls 4 [(0, .ref b), (1, .ref qx), (2, .ref h), (3, .int (nI i1))])
    (KK : ∀ (H1 : Heap) (locs1 : List Loc) (ls1 : Array Slot), lI s dC dI cy cI cB cZ h a qx H1 locs1 → lv_has ls1 4 [(0, .ref b), (1, .ref qx), (2, .ref h), (3, .int (nI i1))] → W p l e room_1 s m #[Value.ref b] below meth c H1 locs1 (100 + 2 * (k + 1)) (3000 + 12 * (k + 1)) (lw_Z below #[Value.ref b] s) (F0 m 1452 ls1 [])) :
    W p l e room_1 s m #[Value.ref b] below meth c H locs (100 + 2 * k) (3000 + 12 * k) (lw_Z below #[Value.ref b] s) (F0 m 1284 ls []) := by
  obtain ⟨hx, hb, hr, hml, hown, hts0, hX, hbl, hlocks, hgv⟩ := C0
  obtain ⟨hK, hN, hK3, hO4⟩ := hSt
  obtain ⟨F, M, Y, rl, ad, hv, hq, hrl, hPX, hDX, hPR, hDR, hS, hAR⟩ := hv9
  subst hq
  have hts : ∀ w ∈ wsL_law, w.before #[Value.ref b] s = true := fun w hw => hts0 w (wsL_law_in w hw)
  replace hown : s.vm.findClass RL = some m.cls := hown
  have hbA : ¬ A0 s b := Nat.not_le.mpr hbl
  refine lv_aload_n hx hb dL_law_1284 rfl (lv_at hl 1 rfl) ?_
  refine lv_aload_n hx hb dL_law_1285 rfl (lv_at hl 0 rfl) ?_
  refine lv_iload_n hx hb dL_law_1286 rfl (lv_at hl 3 rfl) ?_
  refine lv_iconst (v := 1) hx hb dL_law_1287 (by decide) ?_
  refine lv_iadd hx hb dL_law_1288 ?_
  refine va_sld hx hb hX hbl hbA hS (nx_in (show (nI i1) + 1 = nI ((i1) + 1) from by show (nI i1) + nI 1 = _; simp only [nI_add, pk_mul]) (by omega) (by omega)) dL_law_1289 ?_
  rw [nx_cl (show (nI i1) + 1 = nI ((i1) + 1) from by show (nI i1) + nI 1 = _; simp only [nI_add, pk_mul]) (by omega)]
  refine lv_aload_n hx hb dL_law_1290 rfl (lv_at hl 0 rfl) ?_
  refine lv_iload_n hx hb dL_law_1291 rfl (lv_at hl 3 rfl) ?_
  refine lv_iconst (v := 2) hx hb dL_law_1292 (by decide) ?_
  refine lv_iadd hx hb dL_law_1293 ?_
  refine va_sld hx hb hX hbl hbA hS (nx_in (show (nI i1) + 2 = nI ((i1) + 2) from by show (nI i1) + nI 2 = _; simp only [nI_add, pk_mul]) (by omega) (by omega)) dL_law_1294 ?_
  rw [nx_cl (show (nI i1) + 2 = nI ((i1) + 2) from by show (nI i1) + nI 2 = _; simp only [nI_add, pk_mul]) (by omega)]
  refine va_calli (va_runV (As := [.int (xs ((i1) + 1)), .int (xs ((i1) + 2))]) (rest := []) ⟨hx, hb, hml, hown, hts⟩ (c_X10_fill l dC dI rl ad cy F M Y (xs ((i1) + 1)) (xs ((i1) + 2)) hrl hv.1 hv.2 (AX s h a) hDX) (cwV 2 hts gL_law_X10_fill rfl rfl rfl (by decide +kernel) ⟨Nat.le_of_ble_eq_true rfl, Nat.le_of_ble_eq_true rfl⟩) ⟨pc_blind, rg_recv hK hPX ((hrl _).mpr (vd_9 (by decide))) (ci := 9) rfl en_9, fun U hU hW => ⟨rfl, by rw [hU]; exact hPX, va_K.moved hW.alike hK, nst_w hW hN⟩⟩ rfl rfl hl.1 rfl (lv_room (Nat.le_of_ble_eq_true rfl)) dL_law_1295 ⟨show 100 + 2 * k + 0 ≤ 600000 by omega, show 3000 + 12 * k + 0 ≤ 7302250 by omega⟩) hS (fun q _ h => h.1) (fun q h => h.1) (fun r u t H1 locs ht hvm hw hB hz1 hk1 hS => ?_)
  subst hw
  obtain ⟨⟨hP1, -, -⟩, hD1⟩ := hB
  rw [ht] at hP1
  replace hPR := wk hPR (fun k q hk => hk1 q.1 (hPR k q hk).lt (fun z => z.2 (hDR.2 k q hk)))
  refine lv_aload_n hx hb dL_law_1298 rfl (lv_at hl 2 rfl) ?_
  refine lv_aload_n hx hb dL_law_1299 rfl (lv_at hl 0 rfl) ?_
  refine lv_iload_n hx hb dL_law_1300 rfl (lv_at hl 3 rfl) ?_
  refine lv_iconst (v := 1) hx hb dL_law_1301 (by decide) ?_
  refine lv_iadd hx hb dL_law_1302 ?_
  refine va_sld hx hb hX hbl hbA hS (nx_in (show (nI i1) + 1 = nI ((i1) + 1) from by show (nI i1) + nI 1 = _; simp only [nI_add, pk_mul]) (by omega) (by omega)) dL_law_1303 ?_
  rw [nx_cl (show (nI i1) + 1 = nI ((i1) + 1) from by show (nI i1) + nI 1 = _; simp only [nI_add, pk_mul]) (by omega)]
  refine lv_aload_n hx hb dL_law_1304 rfl (lv_at hl 0 rfl) ?_
  refine lv_iload_n hx hb dL_law_1305 rfl (lv_at hl 3 rfl) ?_
  refine lv_iconst (v := 2) hx hb dL_law_1306 (by decide) ?_
  refine lv_iadd hx hb dL_law_1307 ?_
  refine va_sld hx hb hX hbl hbA hS (nx_in (show (nI i1) + 2 = nI ((i1) + 2) from by show (nI i1) + nI 2 = _; simp only [nI_add, pk_mul]) (by omega) (by omega)) dL_law_1308 ?_
  rw [nx_cl (show (nI i1) + 2 = nI ((i1) + 2) from by show (nI i1) + nI 2 = _; simp only [nI_add, pk_mul]) (by omega)]
  refine va_calli (va_runV (As := [.int (xs ((i1) + 1)), .int (xs ((i1) + 2))]) (rest := [.int ((s_X11_fill F M (xs ((i1) + 1)) (xs ((i1) + 2))).1)]) ⟨hx, hb, hml, hown, hts⟩ (c_X11_fill l dC dI h a cI cB cZ F M (xs ((i1) + 1)) (xs ((i1) + 2)) (AR h a) hDR) (cwV 2 hts gL_law_X11_fill rfl rfl rfl (by decide +kernel) ⟨Nat.le_of_ble_eq_true rfl, Nat.le_of_ble_eq_true rfl⟩) ⟨pm_blind, va_recv hK3 hPR (ci := 10) (q0 := 0) rfl rfl, fun U hU hW => ⟨rfl, by rw [hU]; exact hPR, va_K.moved hW.alike hK3⟩⟩ rfl rfl hl.1 rfl (lv_room (Nat.le_of_ble_eq_true rfl)) dL_law_1309 ⟨show 100 + 2 * k + 0 + 0 ≤ 600000 by omega, show 3000 + 12 * k + 0 + 0 ≤ 7302250 by omega⟩) hS (fun q _ h => hAR q h) (fun q h => hAR q h) (fun r u t H2 locs ht hvm hw hB hz2 hk2 hS => ?_)
  obtain ⟨hr9, hu9⟩ : r = (s_X11_fill F M (xs ((i1) + 1)) (xs ((i1) + 2))).1 ∧ u = (s_X11_fill F M (xs ((i1) + 1)) (xs ((i1) + 2))).2 := ⟨congrArg Prod.fst hw, congrArg Prod.snd hw⟩
  subst hr9; subst hu9
  obtain ⟨⟨hP2, -⟩, hD2⟩ := hB
  rw [ht] at hP2
  have hPX := wk hP1 (fun k q hk => hk2 q.1 (hP1 k q hk).lt (hD1.2 k q hk).2)
  have hDX := hD1; have hPR := hP2
  refine lv_icmp_eq (tgt := 1452) hx hb dL_law_1312 (by decide) (fun _ => ?_) (fun c => absurd rfl c)
  refine W.widen (k := 100 + 2 * (k + 1)) (n := 3000 + 12 * (k + 1)) (by omega) (by omega) ?_
  exact KK _ _ _ ⟨(s_X11_fill F M (xs ((i1) + 1)) (xs ((i1) + 2))).2.1, (s_X11_fill F M (xs ((i1) + 1)) (xs ((i1) + 2))).2.2, _, rl, ad, k_fill (xs ((i1) + 1)) (xs ((i1) + 2)) hv.1 hv.2, rfl, fun r => (hrl r).trans (v_fill F M (xs ((i1) + 1)) (xs ((i1) + 2)) r).symm, hPX, hDX, hPR, dR hD2, hS, hAR⟩ (lv_sub hl [0, 1, 2, 3] rfl)

set_option maxHeartbeats 4000000 in
set_option maxRecDepth 100000 in
theorem lc_lacks {p : Program} {l : Launch} {e : Env} {s : State} {m : MethodId} {below : List Frame} {meth : Method} {c : Code} {dC : Nat → ClassId} {dI : Nat → Nat → Nat} {cy : Nat → ClassId} {cI cB cZ : ClassId} {h : Nat} {a : Nat → Nat} {b L : Nat} {xs : Nat → Int32} (hL : L ≤ 3584) (C0 : lw_At p s m meth c b L xs) (hSt : lS s dC dI cy cI cB cZ) (k i1 : Nat) (hik : i1 = 7 * k) (hi7 : i1 + 7 ≤ L) (qx : Nat) (H : Heap) (locs : List Loc) (hv9 : lI s dC dI cy cI cB cZ h a qx H locs) (ls : Array Slot) (hl : lv_has ls 4 [(0, .ref b), (1, .ref qx), (2, .ref h), (3, .int (nI i1))])
    (KK : ∀ (H1 : Heap) (locs1 : List Loc) (ls1 : Array Slot), lI s dC dI cy cI cB cZ h a qx H1 locs1 → lv_has ls1 4 [(0, .ref b), (1, .ref qx), (2, .ref h), (3, .int (nI i1))] → W p l e room_1 s m #[Value.ref b] below meth c H1 locs1 (100 + 2 * (k + 1)) (3000 + 12 * (k + 1)) (lw_Z below #[Value.ref b] s) (F0 m 1452 ls1 [])) :
    W p l e room_1 s m #[Value.ref b] below meth c H locs (100 + 2 * k) (3000 + 12 * k) (lw_Z below #[Value.ref b] s) (F0 m 1317 ls []) := by
  obtain ⟨hx, hb, hr, hml, hown, hts0, hX, hbl, hlocks, hgv⟩ := C0
  obtain ⟨hK, hN, hK3, hO4⟩ := hSt
  obtain ⟨F, M, Y, rl, ad, hv, hq, hrl, hPX, hDX, hPR, hDR, hS, hAR⟩ := hv9
  subst hq
  have hts : ∀ w ∈ wsL_law, w.before #[Value.ref b] s = true := fun w hw => hts0 w (wsL_law_in w hw)
  replace hown : s.vm.findClass RL = some m.cls := hown
  have hbA : ¬ A0 s b := Nat.not_le.mpr hbl
  refine lv_aload_n hx hb dL_law_1317 rfl (lv_at hl 1 rfl) ?_
  refine vp_callSi (W.runV (As := []) (rest := []) ⟨hx, hb, hml, hown, hts⟩ (c_X10_lacks l dC dI rl ad cy F M Y  hrl hv.1 hv.2) (cwV 0 hts gL_law_X10_lacks rfl rfl rfl (by decide +kernel) ⟨Nat.le_of_ble_eq_true rfl, Nat.le_of_ble_eq_true rfl⟩) ⟨pc_blind, rg_recv hK hPX ((hrl _).mpr (vd_9 (by decide))) (ci := 9) rfl en_9, fun U hU hW => ⟨rfl, by rw [hU]; exact hPX, va_K.moved hW.alike hK, nst_w hW hN⟩⟩ rfl rfl hl.1 rfl (lv_room (Nat.le_of_ble_eq_true rfl)) dL_law_1318 ⟨show 100 + 2 * k + 0 ≤ 600000 by omega, show 3000 + 12 * k + 0 ≤ 7302250 by omega⟩) (fun r hr9 => ?_)
  subst hr9
  refine lv_aload_n hx hb dL_law_1321 rfl (lv_at hl 2 rfl) ?_
  refine vp_callSi (W.runV (As := []) (rest := [.int (s_X11_lacks F M)]) ⟨hx, hb, hml, hown, hts⟩ (c_X11_lacks l dC dI h a cI cB cZ F M ) (cwV 0 hts gL_law_X11_lacks rfl rfl rfl (by decide +kernel) ⟨Nat.le_of_ble_eq_true rfl, Nat.le_of_ble_eq_true rfl⟩) ⟨pm_blind, va_recv hK3 hPR (ci := 10) (q0 := 0) rfl rfl, fun U hU hW => ⟨rfl, by rw [hU]; exact hPR, va_K.moved hW.alike hK3⟩⟩ rfl rfl hl.1 rfl (lv_room (Nat.le_of_ble_eq_true rfl)) dL_law_1322 ⟨show 100 + 2 * k + 0 ≤ 600000 by omega, show 3000 + 12 * k + 0 ≤ 7302250 by omega⟩) (fun r hr9 => ?_)
  subst hr9
  refine lv_icmp_eq (tgt := 1452) hx hb dL_law_1325 (by decide) (fun _ => ?_) (fun c => absurd rfl c)
  refine W.widen (k := 100 + 2 * (k + 1)) (n := 3000 + 12 * (k + 1)) (by omega) (by omega) ?_
  exact KK H locs ls ⟨F, M, Y, rl, ad, hv, rfl, hrl, hPX, hDX, hPR, hDR, hS, hAR⟩ (lv_sub hl [0, 1, 2, 3] rfl)

set_option maxHeartbeats 4000000 in
set_option maxRecDepth 100000 in
theorem lc_swaps {p : Program} {l : Launch} {e : Env} {s : State} {m : MethodId} {below : List Frame} {meth : Method} {c : Code} {dC : Nat → ClassId} {dI : Nat → Nat → Nat} {cy : Nat → ClassId} {cI cB cZ : ClassId} {h : Nat} {a : Nat → Nat} {b L : Nat} {xs : Nat → Int32} (hL : L ≤ 3584) (C0 : lw_At p s m meth c b L xs) (hSt : lS s dC dI cy cI cB cZ) (k i1 : Nat) (hik : i1 = 7 * k) (hi7 : i1 + 7 ≤ L) (qx : Nat) (H : Heap) (locs : List Loc) (hv9 : lI s dC dI cy cI cB cZ h a qx H locs) (ls : Array Slot) (hl : lv_has ls 4 [(0, .ref b), (1, .ref qx), (2, .ref h), (3, .int (nI i1))])
    (KK : ∀ (H1 : Heap) (locs1 : List Loc) (ls1 : Array Slot), lI s dC dI cy cI cB cZ h a qx H1 locs1 → lv_has ls1 4 [(0, .ref b), (1, .ref qx), (2, .ref h), (3, .int (nI i1))] → W p l e room_1 s m #[Value.ref b] below meth c H1 locs1 (100 + 2 * (k + 1)) (3000 + 12 * (k + 1)) (lw_Z below #[Value.ref b] s) (F0 m 1452 ls1 [])) :
    W p l e room_1 s m #[Value.ref b] below meth c H locs (100 + 2 * k) (3000 + 12 * k) (lw_Z below #[Value.ref b] s) (F0 m 1330 ls []) := by
  obtain ⟨hx, hb, hr, hml, hown, hts0, hX, hbl, hlocks, hgv⟩ := C0
  obtain ⟨hK, hN, hK3, hO4⟩ := hSt
  obtain ⟨F, M, Y, rl, ad, hv, hq, hrl, hPX, hDX, hPR, hDR, hS, hAR⟩ := hv9
  subst hq
  have hts : ∀ w ∈ wsL_law, w.before #[Value.ref b] s = true := fun w hw => hts0 w (wsL_law_in w hw)
  replace hown : s.vm.findClass RL = some m.cls := hown
  have hbA : ¬ A0 s b := Nat.not_le.mpr hbl
  refine lv_aload_n hx hb dL_law_1330 rfl (lv_at hl 1 rfl) ?_
  refine lv_aload_n hx hb dL_law_1331 rfl (lv_at hl 0 rfl) ?_
  refine lv_iload_n hx hb dL_law_1332 rfl (lv_at hl 3 rfl) ?_
  refine lv_iconst (v := 1) hx hb dL_law_1333 (by decide) ?_
  refine lv_iadd hx hb dL_law_1334 ?_
  refine va_sld hx hb hX hbl hbA hS (nx_in (show (nI i1) + 1 = nI ((i1) + 1) from by show (nI i1) + nI 1 = _; simp only [nI_add, pk_mul]) (by omega) (by omega)) dL_law_1335 ?_
  rw [nx_cl (show (nI i1) + 1 = nI ((i1) + 1) from by show (nI i1) + nI 1 = _; simp only [nI_add, pk_mul]) (by omega)]
  refine va_calli (va_runV (As := [.int (xs ((i1) + 1))]) (rest := []) ⟨hx, hb, hml, hown, hts⟩ (c_X10_swaps l dC dI rl ad cy F M Y (xs ((i1) + 1)) hrl hv.1 hv.2 (AX s h a) hDX) (cwV 1 hts gL_law_X10_swaps rfl rfl rfl (by decide +kernel) ⟨Nat.le_of_ble_eq_true rfl, Nat.le_of_ble_eq_true rfl⟩) ⟨pc_blind, rg_recv hK hPX ((hrl _).mpr (vd_9 (by decide))) (ci := 9) rfl en_9, fun U hU hW => ⟨rfl, by rw [hU]; exact hPX, va_K.moved hW.alike hK, nst_w hW hN⟩⟩ rfl rfl hl.1 rfl (lv_room (Nat.le_of_ble_eq_true rfl)) dL_law_1336 ⟨show 100 + 2 * k + 0 ≤ 600000 by omega, show 3000 + 12 * k + 0 ≤ 7302250 by omega⟩) hS (fun q _ h => h.1) (fun q h => h.1) (fun r u t H1 locs ht hvm hw hB hz1 hk1 hS => ?_)
  subst hw
  obtain ⟨⟨hP1, -, -⟩, hD1⟩ := hB
  rw [ht] at hP1
  replace hPR := wk hPR (fun k q hk => hk1 q.1 (hPR k q hk).lt (fun z => z.2 (hDR.2 k q hk)))
  refine lv_aload_n hx hb dL_law_1339 rfl (lv_at hl 2 rfl) ?_
  refine lv_aload_n hx hb dL_law_1340 rfl (lv_at hl 0 rfl) ?_
  refine lv_iload_n hx hb dL_law_1341 rfl (lv_at hl 3 rfl) ?_
  refine lv_iconst (v := 1) hx hb dL_law_1342 (by decide) ?_
  refine lv_iadd hx hb dL_law_1343 ?_
  refine va_sld hx hb hX hbl hbA hS (nx_in (show (nI i1) + 1 = nI ((i1) + 1) from by show (nI i1) + nI 1 = _; simp only [nI_add, pk_mul]) (by omega) (by omega)) dL_law_1344 ?_
  rw [nx_cl (show (nI i1) + 1 = nI ((i1) + 1) from by show (nI i1) + nI 1 = _; simp only [nI_add, pk_mul]) (by omega)]
  refine va_calli (va_runV (As := [.int (xs ((i1) + 1))]) (rest := [.int ((s_X11_swaps F M (xs ((i1) + 1))).1)]) ⟨hx, hb, hml, hown, hts⟩ (c_X11_swaps l dC dI h a cI cB cZ F M (xs ((i1) + 1)) (AR h a) hDR hv.2) (cwV 1 hts gL_law_X11_swaps rfl rfl rfl (by decide +kernel) ⟨Nat.le_of_ble_eq_true rfl, Nat.le_of_ble_eq_true rfl⟩) ⟨pm_blind, va_recv hK3 hPR (ci := 10) (q0 := 0) rfl rfl, fun U hU hW => ⟨rfl, by rw [hU]; exact hPR, va_K.moved hW.alike hK3⟩⟩ rfl rfl hl.1 rfl (lv_room (Nat.le_of_ble_eq_true rfl)) dL_law_1345 ⟨show 100 + 2 * k + 0 + 0 ≤ 600000 by omega, show 3000 + 12 * k + 0 + 0 ≤ 7302250 by omega⟩) hS (fun q _ h => hAR q h) (fun q h => hAR q h) (fun r u t H2 locs ht hvm hw hB hz2 hk2 hS => ?_)
  obtain ⟨hr9, hu9⟩ : r = (s_X11_swaps F M (xs ((i1) + 1))).1 ∧ u = (s_X11_swaps F M (xs ((i1) + 1))).2 := ⟨congrArg Prod.fst hw, congrArg Prod.snd hw⟩
  subst hr9; subst hu9
  obtain ⟨⟨hP2, -⟩, hD2⟩ := hB
  rw [ht] at hP2
  have hPX := wk hP1 (fun k q hk => hk2 q.1 (hP1 k q hk).lt (hD1.2 k q hk).2)
  have hDX := hD1; have hPR := hP2
  refine lv_icmp_eq (tgt := 1452) hx hb dL_law_1348 (by decide) (fun _ => ?_) (fun c => absurd rfl c)
  refine W.widen (k := 100 + 2 * (k + 1)) (n := 3000 + 12 * (k + 1)) (by omega) (by omega) ?_
  exact KK _ _ _ ⟨(s_X11_swaps F M (xs ((i1) + 1))).2.1, (s_X11_swaps F M (xs ((i1) + 1))).2.2, _, rl, ad, k_swaps (xs ((i1) + 1)) hv.1 hv.2, rfl, fun r => (hrl r).trans (v_swaps F M (xs ((i1) + 1)) r).symm, hPX, hDX, hPR, dR hD2, hS, hAR⟩ (lv_sub hl [0, 1, 2, 3] rfl)

set_option maxHeartbeats 4000000 in
set_option maxRecDepth 100000 in
theorem lc_whole {p : Program} {l : Launch} {e : Env} {s : State} {m : MethodId} {below : List Frame} {meth : Method} {c : Code} {dC : Nat → ClassId} {dI : Nat → Nat → Nat} {cy : Nat → ClassId} {cI cB cZ : ClassId} {h : Nat} {a : Nat → Nat} {b L : Nat} {xs : Nat → Int32} (hL : L ≤ 3584) (C0 : lw_At p s m meth c b L xs) (hSt : lS s dC dI cy cI cB cZ) (k i1 : Nat) (hik : i1 = 7 * k) (hi7 : i1 + 7 ≤ L) (qx : Nat) (H : Heap) (locs : List Loc) (hv9 : lI s dC dI cy cI cB cZ h a qx H locs) (ls : Array Slot) (hl : lv_has ls 4 [(0, .ref b), (1, .ref qx), (2, .ref h), (3, .int (nI i1))])
    (KK : ∀ (H1 : Heap) (locs1 : List Loc) (ls1 : Array Slot), lI s dC dI cy cI cB cZ h a qx H1 locs1 → lv_has ls1 4 [(0, .ref b), (1, .ref qx), (2, .ref h), (3, .int (nI i1))] → W p l e room_1 s m #[Value.ref b] below meth c H1 locs1 (100 + 2 * (k + 1)) (3000 + 12 * (k + 1)) (lw_Z below #[Value.ref b] s) (F0 m 1452 ls1 [])) :
    W p l e room_1 s m #[Value.ref b] below meth c H locs (100 + 2 * k) (3000 + 12 * k) (lw_Z below #[Value.ref b] s) (F0 m 1353 ls []) := by
  obtain ⟨hx, hb, hr, hml, hown, hts0, hX, hbl, hlocks, hgv⟩ := C0
  obtain ⟨hK, hN, hK3, hO4⟩ := hSt
  obtain ⟨F, M, Y, rl, ad, hv, hq, hrl, hPX, hDX, hPR, hDR, hS, hAR⟩ := hv9
  subst hq
  have hts : ∀ w ∈ wsL_law, w.before #[Value.ref b] s = true := fun w hw => hts0 w (wsL_law_in w hw)
  replace hown : s.vm.findClass RL = some m.cls := hown
  have hbA : ¬ A0 s b := Nat.not_le.mpr hbl
  refine lv_aload_n hx hb dL_law_1353 rfl (lv_at hl 1 rfl) ?_
  refine va_calli (va_runV (As := []) (rest := []) ⟨hx, hb, hml, hown, hts⟩ (c_X10_whole l dC dI rl ad cy F M Y  hrl hv.1 hv.2 (AX s h a) hDX) (cwV 0 hts gL_law_X10_whole rfl rfl rfl (by decide +kernel) ⟨Nat.le_of_ble_eq_true rfl, Nat.le_of_ble_eq_true rfl⟩) ⟨pc_blind, rg_recv hK hPX ((hrl _).mpr (vd_9 (by decide))) (ci := 9) rfl en_9, fun U hU hW => ⟨rfl, by rw [hU]; exact hPX, va_K.moved hW.alike hK, nst_w hW hN⟩⟩ rfl rfl hl.1 rfl (lv_room (Nat.le_of_ble_eq_true rfl)) dL_law_1354 ⟨show 100 + 2 * k + 0 ≤ 600000 by omega, show 3000 + 12 * k + 0 ≤ 7302250 by omega⟩) hS (fun q _ h => h.1) (fun q h => h.1) (fun r u t H1 locs ht hvm hw hB hz1 hk1 hS => ?_)
  subst hw
  obtain ⟨⟨hP1, -, -⟩, hD1⟩ := hB
  rw [ht] at hP1
  replace hPR := wk hPR (fun k q hk => hk1 q.1 (hPR k q hk).lt (fun z => z.2 (hDR.2 k q hk)))
  refine lv_aload_n hx hb dL_law_1357 rfl (lv_at hl 2 rfl) ?_
  refine va_calli (va_runV (As := []) (rest := [.int ((s_X11_whole F M ).1)]) ⟨hx, hb, hml, hown, hts⟩ (c_X11_whole l dC dI h a cI cB cZ F M  (AR h a) hDR hv.2) (cwV 0 hts gL_law_X11_whole rfl rfl rfl (by decide +kernel) ⟨Nat.le_of_ble_eq_true rfl, Nat.le_of_ble_eq_true rfl⟩) ⟨pm_blind, va_recv hK3 hPR (ci := 10) (q0 := 0) rfl rfl, fun U hU hW => ⟨rfl, by rw [hU]; exact hPR, va_K.moved hW.alike hK3⟩⟩ rfl rfl hl.1 rfl (lv_room (Nat.le_of_ble_eq_true rfl)) dL_law_1358 ⟨show 100 + 2 * k + 0 + 0 ≤ 600000 by omega, show 3000 + 12 * k + 0 + 0 ≤ 7302250 by omega⟩) hS (fun q _ h => hAR q h) (fun q h => hAR q h) (fun r u t H2 locs ht hvm hw hB hz2 hk2 hS => ?_)
  obtain ⟨hr9, hu9⟩ : r = (s_X11_whole F M ).1 ∧ u = (s_X11_whole F M ).2 := ⟨congrArg Prod.fst hw, congrArg Prod.snd hw⟩
  subst hr9; subst hu9
  obtain ⟨⟨hP2, -⟩, hD2⟩ := hB
  rw [ht] at hP2
  have hPX := wk hP1 (fun k q hk => hk2 q.1 (hP1 k q hk).lt (hD1.2 k q hk).2)
  have hDX := hD1; have hPR := hP2
  refine lv_icmp_eq (tgt := 1452) hx hb dL_law_1361 (by decide) (fun _ => ?_) (fun c => absurd rfl c)
  refine W.widen (k := 100 + 2 * (k + 1)) (n := 3000 + 12 * (k + 1)) (by omega) (by omega) ?_
  exact KK _ _ _ ⟨(s_X11_whole F M ).2.1, (s_X11_whole F M ).2.2, _, rl, ad, k_whole  hv.1 hv.2, rfl, fun r => (hrl r).trans (v_whole F M  r).symm, hPX, hDX, hPR, dR hD2, hS, hAR⟩ (lv_sub hl [0, 1, 2, 3] rfl)
