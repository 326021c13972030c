set_option maxHeartbeats 4000000 in
set_option maxRecDepth 100000 in
theorem lc_later {p : Program} {l : Launch} {e : Env} {s : State} {m : MethodId} {below : List Frame} {meth : Method} {c : Code} {dC : Nat → ClassId} {dI : Nat → Nat → Nat} {cy : Nat → ClassId} {cI cB cZ : ClassId} {h : Nat} {a : Nat → Nat} {b L : Nat} {xs : Nat → Int32} (hL : L ≤ 3584) (C0 : lw_At p s m meth c b L xs) (hSt : lS s dC dI cy cI cB cZ) (k i1 : Nat) (hik : i1 = 7 * k) (hi7 : i1 + 7 ≤ L) (qx : Nat) (H : Heap) (locs : List Loc) (hv9 : lI s dC dI cy cI cB cZ h a qx H locs) (ls : Array Slot) (hl : lv_has ls 4 [(0, .ref b), (1, .ref qx), (2, .ref h), (3, .int (nI i1))])
    (KK : ∀ (H1 : Heap) (locs1 : List Loc) (ls1 : Array Slot), lI s dC dI cy cI cB cZ h a qx H1 locs1 → lv_has ls1 4 [(0, .ref b), (1, .ref qx), (2, .ref h), (3, .int (nI i1))] → W p l e room_1 s m #[Value.ref b] below meth c H1 locs1 (100 + 2 * (k + 1)) (3000 + 12 * (k + 1)) (lw_Z below #[Value.ref b] s) (F0 m 1452 ls1 [])) :
    W p l e room_1 s m #[Value.ref b] below meth c H locs (100 + 2 * k) (3000 + 12 * k) (lw_Z below #[Value.ref b] s) (F0 m 196 ls []) := by
  obtain ⟨hx, hb, hr, hml, hown, hts0, hX, hbl, hlocks, hgv⟩ := C0
  obtain ⟨hK, hN, hK3, hO4⟩ := hSt
  obtain ⟨F, M, Y, rl, ad, hv, hq, hrl, hPX, hDX, hPR, hDR, hS, hAR⟩ := hv9
  subst hq
  have hts : ∀ w ∈ wsL_law, w.before #[Value.ref b] s = true := fun w hw => hts0 w (wsL_law_in w hw)
  replace hown : s.vm.findClass RL = some m.cls := hown
  have hbA : ¬ A0 s b := Nat.not_le.mpr hbl
  refine lv_aload_n hx hb dL_law_196 rfl (lv_at hl 1 rfl) ?_
  refine lv_aload_n hx hb dL_law_197 rfl (lv_at hl 0 rfl) ?_
  refine lv_iload_n hx hb dL_law_198 rfl (lv_at hl 3 rfl) ?_
  refine lv_iconst (v := 1) hx hb dL_law_199 (by decide) ?_
  refine lv_iadd hx hb dL_law_200 ?_
  refine va_sld hx hb hX hbl hbA hS (nx_in (show (nI i1) + 1 = nI ((i1) + 1) from by show (nI i1) + nI 1 = _; simp only [nI_add, pk_mul]) (by omega) (by omega)) dL_law_201 ?_
  rw [nx_cl (show (nI i1) + 1 = nI ((i1) + 1) from by show (nI i1) + nI 1 = _; simp only [nI_add, pk_mul]) (by omega)]
  refine va_calli (va_runV (As := [.int (xs ((i1) + 1))]) (rest := []) ⟨hx, hb, hml, hown, hts⟩ (c_X10_later l dC dI rl ad cy F M Y (xs ((i1) + 1)) hrl hv.1 hv.2 (AX s h a) hDX) (cwV 1 hts gL_law_X10_later rfl rfl rfl (by decide +kernel) ⟨Nat.le_of_ble_eq_true rfl, Nat.le_of_ble_eq_true rfl⟩) ⟨pc_blind, rg_recv hK hPX ((hrl _).mpr (vd_9 (by decide))) (ci := 9) rfl en_9, fun U hU hW => ⟨rfl, by rw [hU]; exact hPX, va_K.moved hW.alike hK, nst_w hW hN⟩⟩ rfl rfl hl.1 rfl (lv_room (Nat.le_of_ble_eq_true rfl)) dL_law_202 ⟨show 100 + 2 * k + 0 ≤ 600000 by omega, show 3000 + 12 * k + 0 ≤ 7302250 by omega⟩) hS (fun q _ h => h.1) (fun q h => h.1) (fun r u t H1 locs ht hvm hw hB hz1 hk1 hS => ?_)
  subst hw
  obtain ⟨⟨hP1, -, -⟩, hD1⟩ := hB
  rw [ht] at hP1
  replace hPR := wk hPR (fun k q hk => hk1 q.1 (hPR k q hk).lt (fun z => z.2 (hDR.2 k q hk)))
  refine lv_aload_n hx hb dL_law_205 rfl (lv_at hl 2 rfl) ?_
  refine lv_aload_n hx hb dL_law_206 rfl (lv_at hl 0 rfl) ?_
  refine lv_iload_n hx hb dL_law_207 rfl (lv_at hl 3 rfl) ?_
  refine lv_iconst (v := 1) hx hb dL_law_208 (by decide) ?_
  refine lv_iadd hx hb dL_law_209 ?_
  refine va_sld hx hb hX hbl hbA hS (nx_in (show (nI i1) + 1 = nI ((i1) + 1) from by show (nI i1) + nI 1 = _; simp only [nI_add, pk_mul]) (by omega) (by omega)) dL_law_210 ?_
  rw [nx_cl (show (nI i1) + 1 = nI ((i1) + 1) from by show (nI i1) + nI 1 = _; simp only [nI_add, pk_mul]) (by omega)]
  refine va_calli (va_runV (As := [.int (xs ((i1) + 1))]) (rest := [.int ((s_X11_later F M (xs ((i1) + 1))).1)]) ⟨hx, hb, hml, hown, hts⟩ (c_X11_later l dC dI h a cI cB cZ F M (xs ((i1) + 1)) (AR h a) hDR) (cwV 1 hts gL_law_X11_later rfl rfl rfl (by decide +kernel) ⟨Nat.le_of_ble_eq_true rfl, Nat.le_of_ble_eq_true rfl⟩) ⟨pm_blind, va_recv hK3 hPR (ci := 10) (q0 := 0) rfl rfl, fun U hU hW => ⟨rfl, by rw [hU]; exact hPR, va_K.moved hW.alike hK3⟩⟩ rfl rfl hl.1 rfl (lv_room (Nat.le_of_ble_eq_true rfl)) dL_law_211 ⟨show 100 + 2 * k + 0 + 0 ≤ 600000 by omega, show 3000 + 12 * k + 0 + 0 ≤ 7302250 by omega⟩) hS (fun q _ h => hAR q h) (fun q h => hAR q h) (fun r u t H2 locs ht hvm hw hB hz2 hk2 hS => ?_)
  obtain ⟨hr9, hu9⟩ : r = (s_X11_later F M (xs ((i1) + 1))).1 ∧ u = (s_X11_later F M (xs ((i1) + 1))).2 := ⟨congrArg Prod.fst hw, congrArg Prod.snd hw⟩
  subst hr9; subst hu9
  obtain ⟨⟨hP2, -⟩, hD2⟩ := hB
  rw [ht] at hP2
  have hPX := wk hP1 (fun k q hk => hk2 q.1 (hP1 k q hk).lt (hD1.2 k q hk).2)
  have hDX := hD1; have hPR := hP2
  refine lv_icmp_eq (tgt := 1452) hx hb dL_law_214 (by decide) (fun _ => ?_) (fun c => absurd rfl c)
  refine W.widen (k := 100 + 2 * (k + 1)) (n := 3000 + 12 * (k + 1)) (by omega) (by omega) ?_
  exact KK _ _ _ ⟨(s_X11_later F M (xs ((i1) + 1))).2.1, (s_X11_later F M (xs ((i1) + 1))).2.2, _, rl, ad, k_later (xs ((i1) + 1)) hv.1 hv.2, rfl, fun r => (hrl r).trans (v_later F M (xs ((i1) + 1)) r).symm, hPX, hDX, hPR, dR hD2, hS, hAR⟩ (lv_sub hl [0, 1, 2, 3] rfl)

set_option maxHeartbeats 4000000 in
set_option maxRecDepth 100000 in
theorem lc_fellow {p : Program} {l : Launch} {e : Env} {s : State} {m : MethodId} {below : List Frame} {meth : Method} {c : Code} {dC : Nat → ClassId} {dI : Nat → Nat → Nat} {cy : Nat → ClassId} {cI cB cZ : ClassId} {h : Nat} {a : Nat → Nat} {b L : Nat} {xs : Nat → Int32} (hL : L ≤ 3584) (C0 : lw_At p s m meth c b L xs) (hSt : lS s dC dI cy cI cB cZ) (k i1 : Nat) (hik : i1 = 7 * k) (hi7 : i1 + 7 ≤ L) (qx : Nat) (H : Heap) (locs : List Loc) (hv9 : lI s dC dI cy cI cB cZ h a qx H locs) (ls : Array Slot) (hl : lv_has ls 4 [(0, .ref b), (1, .ref qx), (2, .ref h), (3, .int (nI i1))])
    (KK : ∀ (H1 : Heap) (locs1 : List Loc) (ls1 : Array Slot), lI s dC dI cy cI cB cZ h a qx H1 locs1 → lv_has ls1 4 [(0, .ref b), (1, .ref qx), (2, .ref h), (3, .int (nI i1))] → W p l e room_1 s m #[Value.ref b] below meth c H1 locs1 (100 + 2 * (k + 1)) (3000 + 12 * (k + 1)) (lw_Z below #[Value.ref b] s) (F0 m 1452 ls1 [])) :
    W p l e room_1 s m #[Value.ref b] below meth c H locs (100 + 2 * k) (3000 + 12 * k) (lw_Z below #[Value.ref b] s) (F0 m 219 ls []) := by
  obtain ⟨hx, hb, hr, hml, hown, hts0, hX, hbl, hlocks, hgv⟩ := C0
  obtain ⟨hK, hN, hK3, hO4⟩ := hSt
  obtain ⟨F, M, Y, rl, ad, hv, hq, hrl, hPX, hDX, hPR, hDR, hS, hAR⟩ := hv9
  subst hq
  have hts : ∀ w ∈ wsL_law, w.before #[Value.ref b] s = true := fun w hw => hts0 w (wsL_law_in w hw)
  replace hown : s.vm.findClass RL = some m.cls := hown
  have hbA : ¬ A0 s b := Nat.not_le.mpr hbl
  refine lv_aload_n hx hb dL_law_219 rfl (lv_at hl 1 rfl) ?_
  refine va_calli (va_runV (As := []) (rest := []) ⟨hx, hb, hml, hown, hts⟩ (c_X10_fellow l dC dI rl ad cy F M Y  hrl hv.1 hv.2 (AX s h a) hDX) (cwV 0 hts gL_law_X10_fellow rfl rfl rfl (by decide +kernel) ⟨Nat.le_of_ble_eq_true rfl, Nat.le_of_ble_eq_true rfl⟩) ⟨pc_blind, rg_recv hK hPX ((hrl _).mpr (vd_9 (by decide))) (ci := 9) rfl en_9, fun U hU hW => ⟨rfl, by rw [hU]; exact hPX, va_K.moved hW.alike hK, nst_w hW hN⟩⟩ rfl rfl hl.1 rfl (lv_room (Nat.le_of_ble_eq_true rfl)) dL_law_220 ⟨show 100 + 2 * k + 0 ≤ 600000 by omega, show 3000 + 12 * k + 0 ≤ 7302250 by omega⟩) hS (fun q _ h => h.1) (fun q h => h.1) (fun r u t H1 locs ht hvm hw hB hz1 hk1 hS => ?_)
  subst hw
  obtain ⟨⟨hP1, -, -⟩, hD1⟩ := hB
  rw [ht] at hP1
  replace hPR := wk hPR (fun k q hk => hk1 q.1 (hPR k q hk).lt (fun z => z.2 (hDR.2 k q hk)))
  refine lv_aload_n hx hb dL_law_223 rfl (lv_at hl 2 rfl) ?_
  refine va_calli (va_runV (As := []) (rest := [.int ((s_X11_fellow F M ).1)]) ⟨hx, hb, hml, hown, hts⟩ (c_X11_fellow l dC dI h a cI cB cZ F M  (AR h a) hDR) (cwV 0 hts gL_law_X11_fellow rfl rfl rfl (by decide +kernel) ⟨Nat.le_of_ble_eq_true rfl, Nat.le_of_ble_eq_true rfl⟩) ⟨pm_blind, va_recv hK3 hPR (ci := 10) (q0 := 0) rfl rfl, fun U hU hW => ⟨rfl, by rw [hU]; exact hPR, va_K.moved hW.alike hK3⟩⟩ rfl rfl hl.1 rfl (lv_room (Nat.le_of_ble_eq_true rfl)) dL_law_224 ⟨show 100 + 2 * k + 0 + 0 ≤ 600000 by omega, show 3000 + 12 * k + 0 + 0 ≤ 7302250 by omega⟩) hS (fun q _ h => hAR q h) (fun q h => hAR q h) (fun r u t H2 locs ht hvm hw hB hz2 hk2 hS => ?_)
  obtain ⟨hr9, hu9⟩ : r = (s_X11_fellow F M ).1 ∧ u = (s_X11_fellow F M ).2 := ⟨congrArg Prod.fst hw, congrArg Prod.snd hw⟩
  subst hr9; subst hu9
  obtain ⟨⟨hP2, -⟩, hD2⟩ := hB
  rw [ht] at hP2
  have hPX := wk hP1 (fun k q hk => hk2 q.1 (hP1 k q hk).lt (hD1.2 k q hk).2)
  have hDX := hD1; have hPR := hP2
  refine lv_icmp_eq (tgt := 1452) hx hb dL_law_227 (by decide) (fun _ => ?_) (fun c => absurd rfl c)
  refine W.widen (k := 100 + 2 * (k + 1)) (n := 3000 + 12 * (k + 1)) (by omega) (by omega) ?_
  exact KK _ _ _ ⟨(s_X11_fellow F M ).2.1, (s_X11_fellow F M ).2.2, _, rl, ad, k_fellow  hv.1 hv.2, rfl, fun r => (hrl r).trans (v_fellow F M  r).symm, hPX, hDX, hPR, dR hD2, hS, hAR⟩ (lv_sub hl [0, 1, 2, 3] rfl)

set_option maxHeartbeats 4000000 in
set_option maxRecDepth 100000 in
theorem lc_post {p : Program} {l : Launch} {e : Env} {s : State} {m : MethodId} {below : List Frame} {meth : Method} {c : Code} {dC : Nat → ClassId} {dI : Nat → Nat → Nat} {cy : Nat → ClassId} {cI cB cZ : ClassId} {h : Nat} {a : Nat → Nat} {b L : Nat} {xs : Nat → Int32} (hL : L ≤ 3584) (C0 : lw_At p s m meth c b L xs) (hSt : lS s dC dI cy cI cB cZ) (k i1 : Nat) (hik : i1 = 7 * k) (hi7 : i1 + 7 ≤ L) (qx : Nat) (H : Heap) (locs : List Loc) (hv9 : lI s dC dI cy cI cB cZ h a qx H locs) (ls : Array Slot) (hl : lv_has ls 4 [(0, .ref b), (1, .ref qx), (2, .ref h), (3, .int (nI i1))])
    (KK : ∀ (H1 : Heap) (locs1 : List Loc) (ls1 : Array Slot), lI s dC dI cy cI cB cZ h a qx H1 locs1 → lv_has ls1 4 [(0, .ref b), (1, .ref qx), (2, .ref h), (3, .int (nI i1))] → W p l e room_1 s m #[Value.ref b] below meth c H1 locs1 (100 + 2 * (k + 1)) (3000 + 12 * (k + 1)) (lw_Z below #[Value.ref b] s) (F0 m 1452 ls1 [])) :
    W p l e room_1 s m #[Value.ref b] below meth c H locs (100 + 2 * k) (3000 + 12 * k) (lw_Z below #[Value.ref b] s) (F0 m 232 ls []) := by
  obtain ⟨hx, hb, hr, hml, hown, hts0, hX, hbl, hlocks, hgv⟩ := C0
  obtain ⟨hK, hN, hK3, hO4⟩ := hSt
  obtain ⟨F, M, Y, rl, ad, hv, hq, hrl, hPX, hDX, hPR, hDR, hS, hAR⟩ := hv9
  subst hq
  have hts : ∀ w ∈ wsL_law, w.before #[Value.ref b] s = true := fun w hw => hts0 w (wsL_law_in w hw)
  replace hown : s.vm.findClass RL = some m.cls := hown
  have hbA : ¬ A0 s b := Nat.not_le.mpr hbl
  refine lv_aload_n hx hb dL_law_232 rfl (lv_at hl 1 rfl) ?_
  refine lv_aload_n hx hb dL_law_233 rfl (lv_at hl 0 rfl) ?_
  refine lv_iload_n hx hb dL_law_234 rfl (lv_at hl 3 rfl) ?_
  refine lv_iconst (v := 1) hx hb dL_law_235 (by decide) ?_
  refine lv_iadd hx hb dL_law_236 ?_
  refine va_sld hx hb hX hbl hbA hS (nx_in (show (nI i1) + 1 = nI ((i1) + 1) from by show (nI i1) + nI 1 = _; simp only [nI_add, pk_mul]) (by omega) (by omega)) dL_law_237 ?_
  rw [nx_cl (show (nI i1) + 1 = nI ((i1) + 1) from by show (nI i1) + nI 1 = _; simp only [nI_add, pk_mul]) (by omega)]
  refine lv_aload_n hx hb dL_law_238 rfl (lv_at hl 0 rfl) ?_
  refine lv_iload_n hx hb dL_law_239 rfl (lv_at hl 3 rfl) ?_
  refine lv_iconst (v := 2) hx hb dL_law_240 (by decide) ?_
  refine lv_iadd hx hb dL_law_241 ?_
  refine va_sld hx hb hX hbl hbA hS (nx_in (show (nI i1) + 2 = nI ((i1) + 2) from by show (nI i1) + nI 2 = _; simp only [nI_add, pk_mul]) (by omega) (by omega)) dL_law_242 ?_
  rw [nx_cl (show (nI i1) + 2 = nI ((i1) + 2) from by show (nI i1) + nI 2 = _; simp only [nI_add, pk_mul]) (by omega)]
  refine lv_aload_n hx hb dL_law_243 rfl (lv_at hl 0 rfl) ?_
  refine lv_iload_n hx hb dL_law_244 rfl (lv_at hl 3 rfl) ?_
  refine lv_iconst (v := 3) hx hb dL_law_245 (by decide) ?_
  refine lv_iadd hx hb dL_law_246 ?_
  refine va_sld hx hb hX hbl hbA hS (nx_in (show (nI i1) + 3 = nI ((i1) + 3) from by show (nI i1) + nI 3 = _; simp only [nI_add, pk_mul]) (by omega) (by omega)) dL_law_247 ?_
  rw [nx_cl (show (nI i1) + 3 = nI ((i1) + 3) from by show (nI i1) + nI 3 = _; simp only [nI_add, pk_mul]) (by omega)]
  refine va_calli (va_runV (As := [.int (xs ((i1) + 1)), .int (xs ((i1) + 2)), .int (xs ((i1) + 3))]) (rest := []) ⟨hx, hb, hml, hown, hts⟩ (c_X10_post l dC dI rl ad cy F M Y (xs ((i1) + 1)) (xs ((i1) + 2)) (xs ((i1) + 3)) hrl hv.1 hv.2 (AX s h a) hDX) (cwV 3 hts gL_law_X10_post rfl rfl rfl (by decide +kernel) ⟨Nat.le_of_ble_eq_true rfl, Nat.le_of_ble_eq_true rfl⟩) ⟨pc_blind, rg_recv hK hPX ((hrl _).mpr (vd_9 (by decide))) (ci := 9) rfl en_9, fun U hU hW => ⟨rfl, by rw [hU]; exact hPX, va_K.moved hW.alike hK, nst_w hW hN⟩⟩ rfl rfl hl.1 rfl (lv_room (Nat.le_of_ble_eq_true rfl)) dL_law_248 ⟨show 100 + 2 * k + 0 ≤ 600000 by omega, show 3000 + 12 * k + 0 ≤ 7302250 by omega⟩) hS (fun q _ h => h.1) (fun q h => h.1) (fun r u t H1 locs ht hvm hw hB hz1 hk1 hS => ?_)
  subst hw
  obtain ⟨⟨hP1, -, -⟩, hD1⟩ := hB
  rw [ht] at hP1
  replace hPR := wk hPR (fun k q hk => hk1 q.1 (hPR k q hk).lt (fun z => z.2 (hDR.2 k q hk)))
  refine lv_aload_n hx hb dL_law_251 rfl (lv_at hl 2 rfl) ?_
  refine lv_aload_n hx hb dL_law_252 rfl (lv_at hl 0 rfl) ?_
  refine lv_iload_n hx hb dL_law_253 rfl (lv_at hl 3 rfl) ?_
  refine lv_iconst (v := 1) hx hb dL_law_254 (by decide) ?_
  refine lv_iadd hx hb dL_law_255 ?_
  refine va_sld hx hb hX hbl hbA hS (nx_in (show (nI i1) + 1 = nI ((i1) + 1) from by show (nI i1) + nI 1 = _; simp only [nI_add, pk_mul]) (by omega) (by omega)) dL_law_256 ?_
  rw [nx_cl (show (nI i1) + 1 = nI ((i1) + 1) from by show (nI i1) + nI 1 = _; simp only [nI_add, pk_mul]) (by omega)]
  refine lv_aload_n hx hb dL_law_257 rfl (lv_at hl 0 rfl) ?_
  refine lv_iload_n hx hb dL_law_258 rfl (lv_at hl 3 rfl) ?_
  refine lv_iconst (v := 2) hx hb dL_law_259 (by decide) ?_
  refine lv_iadd hx hb dL_law_260 ?_
  refine va_sld hx hb hX hbl hbA hS (nx_in (show (nI i1) + 2 = nI ((i1) + 2) from by show (nI i1) + nI 2 = _; simp only [nI_add, pk_mul]) (by omega) (by omega)) dL_law_261 ?_
  rw [nx_cl (show (nI i1) + 2 = nI ((i1) + 2) from by show (nI i1) + nI 2 = _; simp only [nI_add, pk_mul]) (by omega)]
  refine lv_aload_n hx hb dL_law_262 rfl (lv_at hl 0 rfl) ?_
  refine lv_iload_n hx hb dL_law_263 rfl (lv_at hl 3 rfl) ?_
  refine lv_iconst (v := 3) hx hb dL_law_264 (by decide) ?_
  refine lv_iadd hx hb dL_law_265 ?_
  refine va_sld hx hb hX hbl hbA hS (nx_in (show (nI i1) + 3 = nI ((i1) + 3) from by show (nI i1) + nI 3 = _; simp only [nI_add, pk_mul]) (by omega) (by omega)) dL_law_266 ?_
  rw [nx_cl (show (nI i1) + 3 = nI ((i1) + 3) from by show (nI i1) + nI 3 = _; simp only [nI_add, pk_mul]) (by omega)]
  refine va_calli (va_runV (As := [.int (xs ((i1) + 1)), .int (xs ((i1) + 2)), .int (xs ((i1) + 3))]) (rest := [.int ((s_X11_post F M (xs ((i1) + 1)) (xs ((i1) + 2)) (xs ((i1) + 3))).1)]) ⟨hx, hb, hml, hown, hts⟩ (c_X11_post l dC dI h a cI cB cZ F M (xs ((i1) + 1)) (xs ((i1) + 2)) (xs ((i1) + 3)) (AR h a) hDR) (cwV 3 hts gL_law_X11_post rfl rfl rfl (by decide +kernel) ⟨Nat.le_of_ble_eq_true rfl, Nat.le_of_ble_eq_true rfl⟩) ⟨pm_blind, va_recv hK3 hPR (ci := 10) (q0 := 0) rfl rfl, fun U hU hW => ⟨rfl, by rw [hU]; exact hPR, va_K.moved hW.alike hK3⟩⟩ rfl rfl hl.1 rfl (lv_room (Nat.le_of_ble_eq_true rfl)) dL_law_267 ⟨show 100 + 2 * k + 0 + 0 ≤ 600000 by omega, show 3000 + 12 * k + 0 + 0 ≤ 7302250 by omega⟩) hS (fun q _ h => hAR q h) (fun q h => hAR q h) (fun r u t H2 locs ht hvm hw hB hz2 hk2 hS => ?_)
  obtain ⟨hr9, hu9⟩ : r = (s_X11_post F M (xs ((i1) + 1)) (xs ((i1) + 2)) (xs ((i1) + 3))).1 ∧ u = (s_X11_post F M (xs ((i1) + 1)) (xs ((i1) + 2)) (xs ((i1) + 3))).2 := ⟨congrArg Prod.fst hw, congrArg Prod.snd hw⟩
  subst hr9; subst hu9
  obtain ⟨⟨hP2, -⟩, hD2⟩ := hB
  rw [ht] at hP2
  have hPX := wk hP1 (fun k q hk => hk2 q.1 (hP1 k q hk).lt (hD1.2 k q hk).2)
  have hDX := hD1; have hPR := hP2
  refine lv_icmp_eq (tgt := 1452) hx hb dL_law_270 (by decide) (fun _ => ?_) (fun c => absurd rfl c)
  refine W.widen (k := 100 + 2 * (k + 1)) (n := 3000 + 12 * (k + 1)) (by omega) (by omega) ?_
  exact KK _ _ _ ⟨(s_X11_post F M (xs ((i1) + 1)) (xs ((i1) + 2)) (xs ((i1) + 3))).2.1, (s_X11_post F M (xs ((i1) + 1)) (xs ((i1) + 2)) (xs ((i1) + 3))).2.2, _, rl, ad, k_post (xs ((i1) + 1)) (xs ((i1) + 2)) (xs ((i1) + 3)) hv.1 hv.2, rfl, fun r => (hrl r).trans (v_post F M (xs ((i1) + 1)) (xs ((i1) + 2)) (xs ((i1) + 3)) r).symm, hPX, hDX, hPR, dR hD2, hS, hAR⟩ (lv_sub hl [0, 1, 2, 3] rfl)

set_option maxHeartbeats 4000000 in
set_option maxRecDepth 100000 in
theorem lc_paper {p : Program} {l : Launch} {e : Env} {s : State} {m : MethodId} {below : List Frame} {meth : Method} {c : Code} {dC : Nat → ClassId} {dI : Nat → Nat → Nat} {cy : Nat → ClassId} {cI cB cZ : ClassId} {h : Nat} {a : Nat → Nat} {b L : Nat} {xs : Nat → Int32} (hL : L ≤ 3584) (C0 : lw_At p s m meth c b L xs) (hSt : lS s dC dI cy cI cB cZ) (k i1 : Nat) (hik : i1 = 7 * k) (hi7 : i1 + 7 ≤ L) (qx : Nat) (H : Heap) (locs : List Loc) (hv9 : lI s dC dI cy cI cB cZ h a qx H locs) (ls : Array Slot) (hl : lv_has ls 4 [(0, .ref b), (1, .ref qx), (2, .ref h), (3, .int (nI i1))])
    (KK : ∀ (H1 : Heap) (locs1 : List Loc) (ls1 : Array Slot), lI s dC dI cy cI cB cZ h a qx H1 locs1 → lv_has ls1 4 [(0, .ref b), (1, .ref qx), (2, .ref h), (3, .int (nI i1))] → W p l e room_1 s m #[Value.ref b] below meth c H1 locs1 (100 + 2 * (k + 1)) (3000 + 12 * (k + 1)) (lw_Z below #[Value.ref b] s) (F0 m 1452 ls1 [])) :
    W p l e room_1 s m #[Value.ref b] below meth c H locs (100 + 2 * k) (3000 + 12 * k) (lw_Z below #[Value.ref b] s) (F0 m 275 ls []) := by
  obtain ⟨hx, hb, hr, hml, hown, hts0, hX, hbl, hlocks, hgv⟩ := C0
  obtain ⟨hK, hN, hK3, hO4⟩ := hSt
  obtain ⟨F, M, Y, rl, ad, hv, hq, hrl, hPX, hDX, hPR, hDR, hS, hAR⟩ := hv9
  subst hq
  have hts : ∀ w ∈ wsL_law, w.before #[Value.ref b] s = true := fun w hw => hts0 w (wsL_law_in w hw)
  replace hown : s.vm.findClass RL = some m.cls := hown
  have hbA : ¬ A0 s b := Nat.not_le.mpr hbl
  have hAX : ∀ q, H.size ≤ q → AX s h a q := fun q hq => ⟨Nat.le_trans hS.1 hq, fun z => absurd (ar_lt hPR z) (Nat.not_lt.mpr hq)⟩
  refine lv_aload_n hx hb dL_law_275 rfl (lv_at hl 1 rfl) ?_
  refine lv_aload_n hx hb dL_law_276 rfl (lv_at hl 0 rfl) ?_
  refine lv_iload_n hx hb dL_law_277 rfl (lv_at hl 3 rfl) ?_
  refine lv_iconst (v := 1) hx hb dL_law_278 (by decide) ?_
  refine lv_iadd hx hb dL_law_279 ?_
  refine va_sld hx hb hX hbl hbA hS (nx_in (show (nI i1) + 1 = nI ((i1) + 1) from by show (nI i1) + nI 1 = _; simp only [nI_add, pk_mul]) (by omega) (by omega)) dL_law_280 ?_
  rw [nx_cl (show (nI i1) + 1 = nI ((i1) + 1) from by show (nI i1) + nI 1 = _; simp only [nI_add, pk_mul]) (by omega)]
  refine lv_aload_n hx hb dL_law_281 rfl (lv_at hl 0 rfl) ?_
  refine lv_iload_n hx hb dL_law_282 rfl (lv_at hl 3 rfl) ?_
  refine lv_iconst (v := 2) hx hb dL_law_283 (by decide) ?_
  refine lv_iadd hx hb dL_law_284 ?_
  refine va_sld hx hb hX hbl hbA hS (nx_in (show (nI i1) + 2 = nI ((i1) + 2) from by show (nI i1) + nI 2 = _; simp only [nI_add, pk_mul]) (by omega) (by omega)) dL_law_285 ?_
  rw [nx_cl (show (nI i1) + 2 = nI ((i1) + 2) from by show (nI i1) + nI 2 = _; simp only [nI_add, pk_mul]) (by omega)]
  refine lv_aload_n hx hb dL_law_286 rfl (lv_at hl 0 rfl) ?_
  refine lv_iload_n hx hb dL_law_287 rfl (lv_at hl 3 rfl) ?_
  refine lv_iconst (v := 3) hx hb dL_law_288 (by decide) ?_
  refine lv_iadd hx hb dL_law_289 ?_
  refine va_sld hx hb hX hbl hbA hS (nx_in (show (nI i1) + 3 = nI ((i1) + 3) from by show (nI i1) + nI 3 = _; simp only [nI_add, pk_mul]) (by omega) (by omega)) dL_law_290 ?_
  rw [nx_cl (show (nI i1) + 3 = nI ((i1) + 3) from by show (nI i1) + nI 3 = _; simp only [nI_add, pk_mul]) (by omega)]
  refine lv_aload_n hx hb dL_law_291 rfl (lv_at hl 0 rfl) ?_
  refine lv_iload_n hx hb dL_law_292 rfl (lv_at hl 3 rfl) ?_
  refine lv_iconst (v := 4) hx hb dL_law_293 (by decide) ?_
  refine lv_iadd hx hb dL_law_294 ?_
  refine va_sld hx hb hX hbl hbA hS (nx_in (show (nI i1) + 4 = nI ((i1) + 4) from by show (nI i1) + nI 4 = _; simp only [nI_add, pk_mul]) (by omega) (by omega)) dL_law_295 ?_
  rw [nx_cl (show (nI i1) + 4 = nI ((i1) + 4) from by show (nI i1) + nI 4 = _; simp only [nI_add, pk_mul]) (by omega)]
  refine lv_aload_n hx hb dL_law_296 rfl (lv_at hl 0 rfl) ?_
  refine lv_iload_n hx hb dL_law_297 rfl (lv_at hl 3 rfl) ?_
  refine lv_iconst (v := 5) hx hb dL_law_298 (by decide) ?_
  refine lv_iadd hx hb dL_law_299 ?_
  refine va_sld hx hb hX hbl hbA hS (nx_in (show (nI i1) + 5 = nI ((i1) + 5) from by show (nI i1) + nI 5 = _; simp only [nI_add, pk_mul]) (by omega) (by omega)) dL_law_300 ?_
  rw [nx_cl (show (nI i1) + 5 = nI ((i1) + 5) from by show (nI i1) + nI 5 = _; simp only [nI_add, pk_mul]) (by omega)]
  refine va_calli (va_runV (As := [.int (xs ((i1) + 1)), .int (xs ((i1) + 2)), .int (xs ((i1) + 3)), .int (xs ((i1) + 4)), .int (xs ((i1) + 5))]) (rest := []) ⟨hx, hb, hml, hown, hts⟩ (c_X10_paper l dC dI rl ad cy F M Y (xs ((i1) + 1)) (xs ((i1) + 2)) (xs ((i1) + 3)) (xs ((i1) + 4)) (xs ((i1) + 5)) hrl hv.1 hv.2 (AX s h a) hDX) (cwV 5 hts gL_law_X10_paper rfl rfl rfl (by decide +kernel) ⟨Nat.le_of_ble_eq_true rfl, Nat.le_of_ble_eq_true rfl⟩) ⟨pn_blind, rg_recv hK hPX ((hrl _).mpr (vd_9 (by decide))) (ci := 9) rfl en_9, fun U hU hW => ⟨rfl, va_AO.moved hW.alike hO4, by rw [hU]; exact hAX, by rw [hU]; exact hPX, va_K.moved hW.alike hK, nst_w hW hN⟩⟩ rfl rfl hl.1 rfl (lv_room (Nat.le_of_ble_eq_true rfl)) dL_law_301 ⟨show 100 + 2 * k + 2 ≤ 600000 by omega, show 3000 + 12 * k + 12 ≤ 7302250 by omega⟩) hS (fun q _ h => h.1) (fun q h => h.1) (fun r u t H1 locs ht hvm hw hB hz1 hk1 hS => ?_)
  subst hw
  obtain ⟨⟨⟨hP1, -, -⟩, hD1⟩, hrl1, hq9⟩ := hB
  rw [ht] at hP1
  replace hPR := wk hPR (fun k q hk => hk1 q.1 (hPR k q hk).lt (fun z => z.2 (hDR.2 k q hk)))
  refine lv_aload_n hx hb dL_law_304 rfl (lv_at hl 2 rfl) ?_
  refine lv_aload_n hx hb dL_law_305 rfl (lv_at hl 0 rfl) ?_
  refine lv_iload_n hx hb dL_law_306 rfl (lv_at hl 3 rfl) ?_
  refine lv_iconst (v := 1) hx hb dL_law_307 (by decide) ?_
  refine lv_iadd hx hb dL_law_308 ?_
  refine va_sld hx hb hX hbl hbA hS (nx_in (show (nI i1) + 1 = nI ((i1) + 1) from by show (nI i1) + nI 1 = _; simp only [nI_add, pk_mul]) (by omega) (by omega)) dL_law_309 ?_
  rw [nx_cl (show (nI i1) + 1 = nI ((i1) + 1) from by show (nI i1) + nI 1 = _; simp only [nI_add, pk_mul]) (by omega)]
  refine lv_aload_n hx hb dL_law_310 rfl (lv_at hl 0 rfl) ?_
  refine lv_iload_n hx hb dL_law_311 rfl (lv_at hl 3 rfl) ?_
  refine lv_iconst (v := 2) hx hb dL_law_312 (by decide) ?_
  refine lv_iadd hx hb dL_law_313 ?_
  refine va_sld hx hb hX hbl hbA hS (nx_in (show (nI i1) + 2 = nI ((i1) + 2) from by show (nI i1) + nI 2 = _; simp only [nI_add, pk_mul]) (by omega) (by omega)) dL_law_314 ?_
  rw [nx_cl (show (nI i1) + 2 = nI ((i1) + 2) from by show (nI i1) + nI 2 = _; simp only [nI_add, pk_mul]) (by omega)]
  refine lv_aload_n hx hb dL_law_315 rfl (lv_at hl 0 rfl) ?_
  refine lv_iload_n hx hb dL_law_316 rfl (lv_at hl 3 rfl) ?_
  refine lv_iconst (v := 3) hx hb dL_law_317 (by decide) ?_
  refine lv_iadd hx hb dL_law_318 ?_
  refine va_sld hx hb hX hbl hbA hS (nx_in (show (nI i1) + 3 = nI ((i1) + 3) from by show (nI i1) + nI 3 = _; simp only [nI_add, pk_mul]) (by omega) (by omega)) dL_law_319 ?_
  rw [nx_cl (show (nI i1) + 3 = nI ((i1) + 3) from by show (nI i1) + nI 3 = _; simp only [nI_add, pk_mul]) (by omega)]
  refine lv_aload_n hx hb dL_law_320 rfl (lv_at hl 0 rfl) ?_
  refine lv_iload_n hx hb dL_law_321 rfl (lv_at hl 3 rfl) ?_
  refine lv_iconst (v := 4) hx hb dL_law_322 (by decide) ?_
  refine lv_iadd hx hb dL_law_323 ?_
  refine va_sld hx hb hX hbl hbA hS (nx_in (show (nI i1) + 4 = nI ((i1) + 4) from by show (nI i1) + nI 4 = _; simp only [nI_add, pk_mul]) (by omega) (by omega)) dL_law_324 ?_
  rw [nx_cl (show (nI i1) + 4 = nI ((i1) + 4) from by show (nI i1) + nI 4 = _; simp only [nI_add, pk_mul]) (by omega)]
  refine lv_aload_n hx hb dL_law_325 rfl (lv_at hl 0 rfl) ?_
  refine lv_iload_n hx hb dL_law_326 rfl (lv_at hl 3 rfl) ?_
  refine lv_iconst (v := 5) hx hb dL_law_327 (by decide) ?_
  refine lv_iadd hx hb dL_law_328 ?_
  refine va_sld hx hb hX hbl hbA hS (nx_in (show (nI i1) + 5 = nI ((i1) + 5) from by show (nI i1) + nI 5 = _; simp only [nI_add, pk_mul]) (by omega) (by omega)) dL_law_329 ?_
  rw [nx_cl (show (nI i1) + 5 = nI ((i1) + 5) from by show (nI i1) + nI 5 = _; simp only [nI_add, pk_mul]) (by omega)]
  refine va_calli (va_runV (As := [.int (xs ((i1) + 1)), .int (xs ((i1) + 2)), .int (xs ((i1) + 3)), .int (xs ((i1) + 4)), .int (xs ((i1) + 5))]) (rest := [.int ((s_X11_paper F M (xs ((i1) + 1)) (xs ((i1) + 2)) (xs ((i1) + 3)) (xs ((i1) + 4)) (xs ((i1) + 5))).1)]) ⟨hx, hb, hml, hown, hts⟩ (c_X11_paper l dC dI h a cI cB cZ F M (xs ((i1) + 1)) (xs ((i1) + 2)) (xs ((i1) + 3)) (xs ((i1) + 4)) (xs ((i1) + 5)) (AR h a) hDR hv.1) (cwV 5 hts gL_law_X11_paper rfl rfl rfl (by decide +kernel) ⟨Nat.le_of_ble_eq_true rfl, Nat.le_of_ble_eq_true rfl⟩) ⟨pm_blind, va_recv hK3 hPR (ci := 10) (q0 := 0) rfl rfl, fun U hU hW => ⟨rfl, by rw [hU]; exact hPR, va_K.moved hW.alike hK3⟩⟩ rfl rfl hl.1 rfl (lv_room (Nat.le_of_ble_eq_true rfl)) dL_law_330 ⟨show 100 + 2 * k + 2 + 0 ≤ 600000 by omega, show 3000 + 12 * k + 12 + 0 ≤ 7302250 by omega⟩) hS (fun q _ h => hAR q h) (fun q h => hAR q h) (fun r u t H2 locs ht hvm hw hB hz2 hk2 hS => ?_)
  obtain ⟨hr9, hu9⟩ : r = (s_X11_paper F M (xs ((i1) + 1)) (xs ((i1) + 2)) (xs ((i1) + 3)) (xs ((i1) + 4)) (xs ((i1) + 5))).1 ∧ u = (s_X11_paper F M (xs ((i1) + 1)) (xs ((i1) + 2)) (xs ((i1) + 3)) (xs ((i1) + 4)) (xs ((i1) + 5))).2 := ⟨congrArg Prod.fst hw, congrArg Prod.snd hw⟩
  subst hr9; subst hu9
  obtain ⟨⟨hP2, -⟩, hD2⟩ := hB
  rw [ht] at hP2
  have hPX := wk hP1 (fun k q hk => hk2 q.1 (hP1 k q hk).lt (hD1.2 k q hk).2)
  have hDX := hD1; have hPR := hP2
  refine lv_icmp_eq (tgt := 1452) hx hb dL_law_333 (by decide) (fun _ => ?_) (fun c => absurd rfl c)
  refine W.widen (k := 100 + 2 * (k + 1)) (n := 3000 + 12 * (k + 1)) (by omega) (by omega) ?_
  exact KK _ _ _ ⟨(s_X11_paper F M (xs ((i1) + 1)) (xs ((i1) + 2)) (xs ((i1) + 3)) (xs ((i1) + 4)) (xs ((i1) + 5))).2.1, (s_X11_paper F M (xs ((i1) + 1)) (xs ((i1) + 2)) (xs ((i1) + 3)) (xs ((i1) + 4)) (xs ((i1) + 5))).2.2, _, _, _, k_paper (xs ((i1) + 1)) (xs ((i1) + 2)) (xs ((i1) + 3)) (xs ((i1) + 4)) (xs ((i1) + 5)) hv.1 hv.2, hq9, hrl1, hPX, hDX, hPR, dR hD2, hS, hAR⟩ (lv_sub hl [0, 1, 2, 3] rfl)

set_option maxHeartbeats 4000000 in
set_option maxRecDepth 100000 in
theorem lc_note {p : Program} {l : Launch} {e : Env} {s : State} {m : MethodId} {below : List Frame} {meth : Method} {c : Code} {dC : Nat → ClassId} {dI : Nat → Nat → Nat} {cy : Nat → ClassId} {cI cB cZ : ClassId} {h : Nat} {a : Nat → Nat} {b L : Nat} {xs : Nat → Int32} (hL : L ≤ 3584) (C0 : lw_At p s m meth c b L xs) (hSt : lS s dC dI cy cI cB cZ) (k i1 : Nat) (hik : i1 = 7 * k) (hi7 : i1 + 7 ≤ L) (qx : Nat) (H : Heap) (locs : List Loc) (hv9 : lI s dC dI cy cI cB cZ h a qx H locs) (ls : Array Slot) (hl : lv_has ls 4 [(0, .ref b), (1, .ref qx), (2, .ref h), (3, .int (nI i1))])
    (KK : ∀ (H1 : Heap) (locs1 : List Loc) (ls1 : Array Slot), lI s dC dI cy cI cB cZ h a qx H1 locs1 → lv_has ls1 4 [(0, .ref b), (1, .ref qx), (2, .ref h), (3, .int (nI i1))] → W p l e room_1 s m #[Value.ref b] below meth c H1 locs1 (100 + 2 * (k + 1)) (3000 + 12 * (k + 1)) (lw_Z below #[Value.ref b] s) (F0 m 1452 ls1 [])) :
    W p l e room_1 s m #[Value.ref b] below meth c H locs (100 + 2 * k) (3000 + 12 * k) (lw_Z below #[Value.ref b] s) (F0 m 338 ls []) := by
  obtain ⟨hx, hb, hr, hml, hown, hts0, hX, hbl, hlocks, hgv⟩ := C0
  obtain ⟨hK, hN, hK3, hO4⟩ := hSt
  obtain ⟨F, M, Y, rl, ad, hv, hq, hrl, hPX, hDX, hPR, hDR, hS, hAR⟩ := hv9
  subst hq
  have hts : ∀ w ∈ wsL_law, w.before #[Value.ref b] s = true := fun w hw => hts0 w (wsL_law_in w hw)
  replace hown : s.vm.findClass RL = some m.cls := hown
  have hbA : ¬ A0 s b := Nat.not_le.mpr hbl
  have hAX : ∀ q, H.size ≤ q → AX s h a q := fun q hq => ⟨Nat.le_trans hS.1 hq, fun z => absurd (ar_lt hPR z) (Nat.not_lt.mpr hq)⟩
  refine lv_aload_n hx hb dL_law_338 rfl (lv_at hl 1 rfl) ?_
  refine lv_aload_n hx hb dL_law_339 rfl (lv_at hl 0 rfl) ?_
  refine lv_iload_n hx hb dL_law_340 rfl (lv_at hl 3 rfl) ?_
  refine lv_iconst (v := 1) hx hb dL_law_341 (by decide) ?_
  refine lv_iadd hx hb dL_law_342 ?_
  refine va_sld hx hb hX hbl hbA hS (nx_in (show (nI i1) + 1 = nI ((i1) + 1) from by show (nI i1) + nI 1 = _; simp only [nI_add, pk_mul]) (by omega) (by omega)) dL_law_343 ?_
  rw [nx_cl (show (nI i1) + 1 = nI ((i1) + 1) from by show (nI i1) + nI 1 = _; simp only [nI_add, pk_mul]) (by omega)]
  refine lv_aload_n hx hb dL_law_344 rfl (lv_at hl 0 rfl) ?_
  refine lv_iload_n hx hb dL_law_345 rfl (lv_at hl 3 rfl) ?_
  refine lv_iconst (v := 2) hx hb dL_law_346 (by decide) ?_
  refine lv_iadd hx hb dL_law_347 ?_
  refine va_sld hx hb hX hbl hbA hS (nx_in (show (nI i1) + 2 = nI ((i1) + 2) from by show (nI i1) + nI 2 = _; simp only [nI_add, pk_mul]) (by omega) (by omega)) dL_law_348 ?_
  rw [nx_cl (show (nI i1) + 2 = nI ((i1) + 2) from by show (nI i1) + nI 2 = _; simp only [nI_add, pk_mul]) (by omega)]
  refine lv_aload_n hx hb dL_law_349 rfl (lv_at hl 0 rfl) ?_
  refine lv_iload_n hx hb dL_law_350 rfl (lv_at hl 3 rfl) ?_
  refine lv_iconst (v := 3) hx hb dL_law_351 (by decide) ?_
  refine lv_iadd hx hb dL_law_352 ?_
  refine va_sld hx hb hX hbl hbA hS (nx_in (show (nI i1) + 3 = nI ((i1) + 3) from by show (nI i1) + nI 3 = _; simp only [nI_add, pk_mul]) (by omega) (by omega)) dL_law_353 ?_
  rw [nx_cl (show (nI i1) + 3 = nI ((i1) + 3) from by show (nI i1) + nI 3 = _; simp only [nI_add, pk_mul]) (by omega)]
  refine va_calli (va_runV (As := [.int (xs ((i1) + 1)), .int (xs ((i1) + 2)), .int (xs ((i1) + 3))]) (rest := []) ⟨hx, hb, hml, hown, hts⟩ (c_X10_note l dC dI rl ad cy F M Y (xs ((i1) + 1)) (xs ((i1) + 2)) (xs ((i1) + 3)) hrl hv.1 hv.2 (AX s h a) hDX) (cwV 3 hts gL_law_X10_note rfl rfl rfl (by decide +kernel) ⟨Nat.le_of_ble_eq_true rfl, Nat.le_of_ble_eq_true rfl⟩) ⟨pa_blind, rg_recv hK hPX ((hrl _).mpr (vd_9 (by decide))) (ci := 9) rfl en_9, fun U hU hW => ⟨rfl, by rw [hU]; exact hAX, by rw [hU]; exact hPX, va_K.moved hW.alike hK, nst_w hW hN⟩⟩ rfl rfl hl.1 rfl (lv_room (Nat.le_of_ble_eq_true rfl)) dL_law_354 ⟨show 100 + 2 * k + 1 ≤ 600000 by omega, show 3000 + 12 * k + 3 ≤ 7302250 by omega⟩) hS (fun q _ h => h.1) (fun q h => h.1) (fun r u t H1 locs ht hvm hw hB hz1 hk1 hS => ?_)
  subst hw
  obtain ⟨⟨⟨hP1, -, -⟩, hD1⟩, hrl1, hq9⟩ := hB
  rw [ht] at hP1
  replace hPR := wk hPR (fun k q hk => hk1 q.1 (hPR k q hk).lt (fun z => z.2 (hDR.2 k q hk)))
  refine lv_aload_n hx hb dL_law_357 rfl (lv_at hl 2 rfl) ?_
  refine lv_aload_n hx hb dL_law_358 rfl (lv_at hl 0 rfl) ?_
  refine lv_iload_n hx hb dL_law_359 rfl (lv_at hl 3 rfl) ?_
  refine lv_iconst (v := 1) hx hb dL_law_360 (by decide) ?_
  refine lv_iadd hx hb dL_law_361 ?_
  refine va_sld hx hb hX hbl hbA hS (nx_in (show (nI i1) + 1 = nI ((i1) + 1) from by show (nI i1) + nI 1 = _; simp only [nI_add, pk_mul]) (by omega) (by omega)) dL_law_362 ?_
  rw [nx_cl (show (nI i1) + 1 = nI ((i1) + 1) from by show (nI i1) + nI 1 = _; simp only [nI_add, pk_mul]) (by omega)]
  refine lv_aload_n hx hb dL_law_363 rfl (lv_at hl 0 rfl) ?_
  refine lv_iload_n hx hb dL_law_364 rfl (lv_at hl 3 rfl) ?_
  refine lv_iconst (v := 2) hx hb dL_law_365 (by decide) ?_
  refine lv_iadd hx hb dL_law_366 ?_
  refine va_sld hx hb hX hbl hbA hS (nx_in (show (nI i1) + 2 = nI ((i1) + 2) from by show (nI i1) + nI 2 = _; simp only [nI_add, pk_mul]) (by omega) (by omega)) dL_law_367 ?_
  rw [nx_cl (show (nI i1) + 2 = nI ((i1) + 2) from by show (nI i1) + nI 2 = _; simp only [nI_add, pk_mul]) (by omega)]
  refine lv_aload_n hx hb dL_law_368 rfl (lv_at hl 0 rfl) ?_
  refine lv_iload_n hx hb dL_law_369 rfl (lv_at hl 3 rfl) ?_
  refine lv_iconst (v := 3) hx hb dL_law_370 (by decide) ?_
  refine lv_iadd hx hb dL_law_371 ?_
  refine va_sld hx hb hX hbl hbA hS (nx_in (show (nI i1) + 3 = nI ((i1) + 3) from by show (nI i1) + nI 3 = _; simp only [nI_add, pk_mul]) (by omega) (by omega)) dL_law_372 ?_
  rw [nx_cl (show (nI i1) + 3 = nI ((i1) + 3) from by show (nI i1) + nI 3 = _; simp only [nI_add, pk_mul]) (by omega)]
  refine va_calli (va_runV (As := [.int (xs ((i1) + 1)), .int (xs ((i1) + 2)), .int (xs ((i1) + 3))]) (rest := [.int ((s_X11_note F M (xs ((i1) + 1)) (xs ((i1) + 2)) (xs ((i1) + 3))).1)]) ⟨hx, hb, hml, hown, hts⟩ (c_X11_note l dC dI h a cI cB cZ F M (xs ((i1) + 1)) (xs ((i1) + 2)) (xs ((i1) + 3)) (AR h a) hDR hv.1) (cwV 3 hts gL_law_X11_note rfl rfl rfl (by decide +kernel) ⟨Nat.le_of_ble_eq_true rfl, Nat.le_of_ble_eq_true rfl⟩) ⟨pm_blind, va_recv hK3 hPR (ci := 10) (q0 := 0) rfl rfl, fun U hU hW => ⟨rfl, by rw [hU]; exact hPR, va_K.moved hW.alike hK3⟩⟩ rfl rfl hl.1 rfl (lv_room (Nat.le_of_ble_eq_true rfl)) dL_law_373 ⟨show 100 + 2 * k + 1 + 0 ≤ 600000 by omega, show 3000 + 12 * k + 3 + 0 ≤ 7302250 by omega⟩) hS (fun q _ h => hAR q h) (fun q h => hAR q h) (fun r u t H2 locs ht hvm hw hB hz2 hk2 hS => ?_)
  obtain ⟨hr9, hu9⟩ : r = (s_X11_note F M (xs ((i1) + 1)) (xs ((i1) + 2)) (xs ((i1) + 3))).1 ∧ u = (s_X11_note F M (xs ((i1) + 1)) (xs ((i1) + 2)) (xs ((i1) + 3))).2 := ⟨congrArg Prod.fst hw, congrArg Prod.snd hw⟩
  subst hr9; subst hu9
  obtain ⟨⟨hP2, -⟩, hD2⟩ := hB
  rw [ht] at hP2
  have hPX := wk hP1 (fun k q hk => hk2 q.1 (hP1 k q hk).lt (hD1.2 k q hk).2)
  have hDX := hD1; have hPR := hP2
  refine lv_icmp_eq (tgt := 1452) hx hb dL_law_376 (by decide) (fun _ => ?_) (fun c => absurd rfl c)
  refine W.widen (k := 100 + 2 * (k + 1)) (n := 3000 + 12 * (k + 1)) (by omega) (by omega) ?_
  exact KK _ _ _ ⟨(s_X11_note F M (xs ((i1) + 1)) (xs ((i1) + 2)) (xs ((i1) + 3))).2.1, (s_X11_note F M (xs ((i1) + 1)) (xs ((i1) + 2)) (xs ((i1) + 3))).2.2, _, _, _, k_note (xs ((i1) + 1)) (xs ((i1) + 2)) (xs ((i1) + 3)) hv.1 hv.2, hq9, hrl1, hPX, hDX, hPR, dR hD2, hS, hAR⟩ (lv_sub hl [0, 1, 2, 3] rfl)

set_option maxHeartbeats 4000000 in
set_option maxRecDepth 100000 in
theorem lc_open {p : Program} {l : Launch} {e : Env} {s : State} {m : MethodId} {below : List Frame} {meth : Method} {c : Code} {dC : Nat → ClassId} {dI : Nat → Nat → Nat} {cy : Nat → ClassId} {cI cB cZ : ClassId} {h : Nat} {a : Nat → Nat} {b L : Nat} {xs : Nat → Int32} (hL : L ≤ 3584) (C0 : lw_At p s m meth c b L xs) (hSt : lS s dC dI cy cI cB cZ) (k i1 : Nat) (hik : i1 = 7 * k) (hi7 : i1 + 7 ≤ L) (qx : Nat) (H : Heap) (locs : List Loc) (hv9 : lI s dC dI cy cI cB cZ h a qx H locs) (ls : Array Slot) (hl : lv_has ls 4 [(0, .ref b), (1, .ref qx), (2, .ref h), (3, .int (nI i1))])
    (KK : ∀ (H1 : Heap) (locs1 : List Loc) (ls1 : Array Slot), lI s dC dI cy cI cB cZ h a qx H1 locs1 → lv_has ls1 4 [(0, .ref b), (1, .ref qx), (2, .ref h), (3, .int (nI i1))] → W p l e room_1 s m #[Value.ref b] below meth c H1 locs1 (100 + 2 * (k + 1)) (3000 + 12 * (k + 1)) (lw_Z below #[Value.ref b] s) (F0 m 1452 ls1 [])) :
    W p l e room_1 s m #[Value.ref b] below meth c H locs (100 + 2 * k) (3000 + 12 * k) (lw_Z below #[Value.ref b] s) (F0 m 381 ls []) := by
  obtain ⟨hx, hb, hr, hml, hown, hts0, hX, hbl, hlocks, hgv⟩ := C0
  obtain ⟨hK, hN, hK3, hO4⟩ := hSt
  obtain ⟨F, M, Y, rl, ad, hv, hq, hrl, hPX, hDX, hPR, hDR, hS, hAR⟩ := hv9
  subst hq
  have hts : ∀ w ∈ wsL_law, w.before #[Value.ref b] s = true := fun w hw => hts0 w (wsL_law_in w hw)
  replace hown : s.vm.findClass RL = some m.cls := hown
  have hbA : ¬ A0 s b := Nat.not_le.mpr hbl
  refine lv_aload_n hx hb dL_law_381 rfl (lv_at hl 1 rfl) ?_
  refine lv_aload_n hx hb dL_law_382 rfl (lv_at hl 0 rfl) ?_
  refine lv_iload_n hx hb dL_law_383 rfl (lv_at hl 3 rfl) ?_
  refine lv_iconst (v := 1) hx hb dL_law_384 (by decide) ?_
  refine lv_iadd hx hb dL_law_385 ?_
  refine va_sld hx hb hX hbl hbA hS (nx_in (show (nI i1) + 1 = nI ((i1) + 1) from by show (nI i1) + nI 1 = _; simp only [nI_add, pk_mul]) (by omega) (by omega)) dL_law_386 ?_
  rw [nx_cl (show (nI i1) + 1 = nI ((i1) + 1) from by show (nI i1) + nI 1 = _; simp only [nI_add, pk_mul]) (by omega)]
  refine lv_aload_n hx hb dL_law_387 rfl (lv_at hl 0 rfl) ?_
  refine lv_iload_n hx hb dL_law_388 rfl (lv_at hl 3 rfl) ?_
  refine lv_iconst (v := 2) hx hb dL_law_389 (by decide) ?_
  refine lv_iadd hx hb dL_law_390 ?_
  refine va_sld hx hb hX hbl hbA hS (nx_in (show (nI i1) + 2 = nI ((i1) + 2) from by show (nI i1) + nI 2 = _; simp only [nI_add, pk_mul]) (by omega) (by omega)) dL_law_391 ?_
  rw [nx_cl (show (nI i1) + 2 = nI ((i1) + 2) from by show (nI i1) + nI 2 = _; simp only [nI_add, pk_mul]) (by omega)]
  refine lv_aload_n hx hb dL_law_392 rfl (lv_at hl 0 rfl) ?_
  refine lv_iload_n hx hb dL_law_393 rfl (lv_at hl 3 rfl) ?_
  refine lv_iconst (v := 3) hx hb dL_law_394 (by decide) ?_
  refine lv_iadd hx hb dL_law_395 ?_
  refine va_sld hx hb hX hbl hbA hS (nx_in (show (nI i1) + 3 = nI ((i1) + 3) from by show (nI i1) + nI 3 = _; simp only [nI_add, pk_mul]) (by omega) (by omega)) dL_law_396 ?_
  rw [nx_cl (show (nI i1) + 3 = nI ((i1) + 3) from by show (nI i1) + nI 3 = _; simp only [nI_add, pk_mul]) (by omega)]
  refine va_calli (va_runV (As := [.int (xs ((i1) + 1)), .int (xs ((i1) + 2)), .int (xs ((i1) + 3))]) (rest := []) ⟨hx, hb, hml, hown, hts⟩ (c_X10_open l dC dI rl ad cy F M Y (xs ((i1) + 1)) (xs ((i1) + 2)) (xs ((i1) + 3)) hrl hv.1 hv.2 (AX s h a) hDX) (cwV 3 hts gL_law_X10_open rfl rfl rfl (by decide +kernel) ⟨Nat.le_of_ble_eq_true rfl, Nat.le_of_ble_eq_true rfl⟩) ⟨pc_blind, rg_recv hK hPX ((hrl _).mpr (vd_9 (by decide))) (ci := 9) rfl en_9, fun U hU hW => ⟨rfl, by rw [hU]; exact hPX, va_K.moved hW.alike hK, nst_w hW hN⟩⟩ rfl rfl hl.1 rfl (lv_room (Nat.le_of_ble_eq_true rfl)) dL_law_397 ⟨show 100 + 2 * k + 0 ≤ 600000 by omega, show 3000 + 12 * k + 0 ≤ 7302250 by omega⟩) hS (fun q _ h => h.1) (fun q h => h.1) (fun r u t H1 locs ht hvm hw hB hz1 hk1 hS => ?_)
  subst hw
  obtain ⟨⟨hP1, -, -⟩, hD1⟩ := hB
  rw [ht] at hP1
  replace hPR := wk hPR (fun k q hk => hk1 q.1 (hPR k q hk).lt (fun z => z.2 (hDR.2 k q hk)))
  refine lv_aload_n hx hb dL_law_400 rfl (lv_at hl 2 rfl) ?_
  refine lv_aload_n hx hb dL_law_401 rfl (lv_at hl 0 rfl) ?_
  refine lv_iload_n hx hb dL_law_402 rfl (lv_at hl 3 rfl) ?_
  refine lv_iconst (v := 1) hx hb dL_law_403 (by decide) ?_
  refine lv_iadd hx hb dL_law_404 ?_
  refine va_sld hx hb hX hbl hbA hS (nx_in (show (nI i1) + 1 = nI ((i1) + 1) from by show (nI i1) + nI 1 = _; simp only [nI_add, pk_mul]) (by omega) (by omega)) dL_law_405 ?_
  rw [nx_cl (show (nI i1) + 1 = nI ((i1) + 1) from by show (nI i1) + nI 1 = _; simp only [nI_add, pk_mul]) (by omega)]
  refine lv_aload_n hx hb dL_law_406 rfl (lv_at hl 0 rfl) ?_
  refine lv_iload_n hx hb dL_law_407 rfl (lv_at hl 3 rfl) ?_
  refine lv_iconst (v := 2) hx hb dL_law_408 (by decide) ?_
  refine lv_iadd hx hb dL_law_409 ?_
  refine va_sld hx hb hX hbl hbA hS (nx_in (show (nI i1) + 2 = nI ((i1) + 2) from by show (nI i1) + nI 2 = _; simp only [nI_add, pk_mul]) (by omega) (by omega)) dL_law_410 ?_
  rw [nx_cl (show (nI i1) + 2 = nI ((i1) + 2) from by show (nI i1) + nI 2 = _; simp only [nI_add, pk_mul]) (by omega)]
  refine lv_aload_n hx hb dL_law_411 rfl (lv_at hl 0 rfl) ?_
  refine lv_iload_n hx hb dL_law_412 rfl (lv_at hl 3 rfl) ?_
  refine lv_iconst (v := 3) hx hb dL_law_413 (by decide) ?_
  refine lv_iadd hx hb dL_law_414 ?_
  refine va_sld hx hb hX hbl hbA hS (nx_in (show (nI i1) + 3 = nI ((i1) + 3) from by show (nI i1) + nI 3 = _; simp only [nI_add, pk_mul]) (by omega) (by omega)) dL_law_415 ?_
  rw [nx_cl (show (nI i1) + 3 = nI ((i1) + 3) from by show (nI i1) + nI 3 = _; simp only [nI_add, pk_mul]) (by omega)]
  refine va_calli (va_runV (As := [.int (xs ((i1) + 1)), .int (xs ((i1) + 2)), .int (xs ((i1) + 3))]) (rest := [.int ((s_X11_open F M (xs ((i1) + 1)) (xs ((i1) + 2)) (xs ((i1) + 3))).1)]) ⟨hx, hb, hml, hown, hts⟩ (c_X11_open l dC dI h a cI cB cZ F M (xs ((i1) + 1)) (xs ((i1) + 2)) (xs ((i1) + 3)) (AR h a) hDR hv.1) (cwV 3 hts gL_law_X11_open rfl rfl rfl (by decide +kernel) ⟨Nat.le_of_ble_eq_true rfl, Nat.le_of_ble_eq_true rfl⟩) ⟨pm_blind, va_recv hK3 hPR (ci := 10) (q0 := 0) rfl rfl, fun U hU hW => ⟨rfl, by rw [hU]; exact hPR, va_K.moved hW.alike hK3⟩⟩ rfl rfl hl.1 rfl (lv_room (Nat.le_of_ble_eq_true rfl)) dL_law_416 ⟨show 100 + 2 * k + 0 + 0 ≤ 600000 by omega, show 3000 + 12 * k + 0 + 0 ≤ 7302250 by omega⟩) hS (fun q _ h => hAR q h) (fun q h => hAR q h) (fun r u t H2 locs ht hvm hw hB hz2 hk2 hS => ?_)
  obtain ⟨hr9, hu9⟩ : r = (s_X11_open F M (xs ((i1) + 1)) (xs ((i1) + 2)) (xs ((i1) + 3))).1 ∧ u = (s_X11_open F M (xs ((i1) + 1)) (xs ((i1) + 2)) (xs ((i1) + 3))).2 := ⟨congrArg Prod.fst hw, congrArg Prod.snd hw⟩
  subst hr9; subst hu9
  obtain ⟨⟨hP2, -⟩, hD2⟩ := hB
  rw [ht] at hP2
  have hPX := wk hP1 (fun k q hk => hk2 q.1 (hP1 k q hk).lt (hD1.2 k q hk).2)
  have hDX := hD1; have hPR := hP2
  refine lv_icmp_eq (tgt := 1452) hx hb dL_law_419 (by decide) (fun _ => ?_) (fun c => absurd rfl c)
  refine W.widen (k := 100 + 2 * (k + 1)) (n := 3000 + 12 * (k + 1)) (by omega) (by omega) ?_
  exact KK _ _ _ ⟨(s_X11_open F M (xs ((i1) + 1)) (xs ((i1) + 2)) (xs ((i1) + 3))).2.1, (s_X11_open F M (xs ((i1) + 1)) (xs ((i1) + 2)) (xs ((i1) + 3))).2.2, _, rl, ad, k_open (xs ((i1) + 1)) (xs ((i1) + 2)) (xs ((i1) + 3)) hv.1 hv.2, rfl, fun r => (hrl r).trans (v_open F M (xs ((i1) + 1)) (xs ((i1) + 2)) (xs ((i1) + 3)) r).symm, hPX, hDX, hPR, dR hD2, hS, hAR⟩ (lv_sub hl [0, 1, 2, 3] rfl)

set_option maxHeartbeats 4000000 in
set_option maxRecDepth 100000 in
theorem lc_told {p : Program} {l : Launch} {e : Env} {s : State} {m : MethodId} {below : List Frame} {meth : Method} {c : Code} {dC : Nat → ClassId} {dI : Nat → Nat → Nat} {cy : Nat → ClassId} {cI cB cZ : ClassId} {h : Nat} {a : Nat → Nat} {b L : Nat} {xs : Nat → Int32} (hL : L ≤ 3584) (C0 : lw_At p s m meth c b L xs) (hSt : lS s dC dI cy cI cB cZ) (k i1 : Nat) (hik : i1 = 7 * k) (hi7 : i1 + 7 ≤ L) (qx : Nat) (H : Heap) (locs : List Loc) (hv9 : lI s dC dI cy cI cB cZ h a qx H locs) (ls : Array Slot) (hl : lv_has ls 4 [(0, .ref b), (1, .ref qx), (2, .ref h), (3, .int (nI i1))])
    (KK : ∀ (H1 : Heap) (locs1 : List Loc) (ls1 : Array Slot), lI s dC dI cy cI cB cZ h a qx H1 locs1 → lv_has ls1 4 [(0, .ref b), (1, .ref qx), (2, .ref h), (3, .int (nI i1))] → W p l e room_1 s m #[Value.ref b] below meth c H1 locs1 (100 + 2 * (k + 1)) (3000 + 12 * (k + 1)) (lw_Z below #[Value.ref b] s) (F0 m 1452 ls1 [])) :
    W p l e room_1 s m #[Value.ref b] below meth c H locs (100 + 2 * k) (3000 + 12 * k) (lw_Z below #[Value.ref b] s) (F0 m 424 ls []) := by
  obtain ⟨hx, hb, hr, hml, hown, hts0, hX, hbl, hlocks, hgv⟩ := C0
  obtain ⟨hK, hN, hK3, hO4⟩ := hSt
  obtain ⟨F, M, Y, rl, ad, hv, hq, hrl, hPX, hDX, hPR, hDR, hS, hAR⟩ := hv9
  subst hq
  have hts : ∀ w ∈ wsL_law, w.before #[Value.ref b] s = true := fun w hw => hts0 w (wsL_law_in w hw)
  replace hown : s.vm.findClass RL = some m.cls := hown
  have hbA : ¬ A0 s b := Nat.not_le.mpr hbl
  refine lv_aload_n hx hb dL_law_424 rfl (lv_at hl 1 rfl) ?_
  refine lv_aload_n hx hb dL_law_425 rfl (lv_at hl 0 rfl) ?_
  refine lv_iload_n hx hb dL_law_426 rfl (lv_at hl 3 rfl) ?_
  refine lv_iconst (v := 1) hx hb dL_law_427 (by decide) ?_
  refine lv_iadd hx hb dL_law_428 ?_
  refine va_sld hx hb hX hbl hbA hS (nx_in (show (nI i1) + 1 = nI ((i1) + 1) from by show (nI i1) + nI 1 = _; simp only [nI_add, pk_mul]) (by omega) (by omega)) dL_law_429 ?_
  rw [nx_cl (show (nI i1) + 1 = nI ((i1) + 1) from by show (nI i1) + nI 1 = _; simp only [nI_add, pk_mul]) (by omega)]
  refine lv_aload_n hx hb dL_law_430 rfl (lv_at hl 0 rfl) ?_
  refine lv_iload_n hx hb dL_law_431 rfl (lv_at hl 3 rfl) ?_
  refine lv_iconst (v := 2) hx hb dL_law_432 (by decide) ?_
  refine lv_iadd hx hb dL_law_433 ?_
  refine va_sld hx hb hX hbl hbA hS (nx_in (show (nI i1) + 2 = nI ((i1) + 2) from by show (nI i1) + nI 2 = _; simp only [nI_add, pk_mul]) (by omega) (by omega)) dL_law_434 ?_
  rw [nx_cl (show (nI i1) + 2 = nI ((i1) + 2) from by show (nI i1) + nI 2 = _; simp only [nI_add, pk_mul]) (by omega)]
  refine vp_callSi (W.runV (As := [.int (xs ((i1) + 1)), .int (xs ((i1) + 2))]) (rest := []) ⟨hx, hb, hml, hown, hts⟩ (c_X10_told l dC dI rl ad cy F M Y (xs ((i1) + 1)) (xs ((i1) + 2)) hrl hv.1 hv.2) (cwV 2 hts gL_law_X10_told rfl rfl rfl (by decide +kernel) ⟨Nat.le_of_ble_eq_true rfl, Nat.le_of_ble_eq_true rfl⟩) ⟨pc_blind, rg_recv hK hPX ((hrl _).mpr (vd_9 (by decide))) (ci := 9) rfl en_9, fun U hU hW => ⟨rfl, by rw [hU]; exact hPX, va_K.moved hW.alike hK, nst_w hW hN⟩⟩ rfl rfl hl.1 rfl (lv_room (Nat.le_of_ble_eq_true rfl)) dL_law_435 ⟨show 100 + 2 * k + 0 ≤ 600000 by omega, show 3000 + 12 * k + 0 ≤ 7302250 by omega⟩) (fun r hr9 => ?_)
  subst hr9
  refine lv_aload_n hx hb dL_law_438 rfl (lv_at hl 2 rfl) ?_
  refine lv_aload_n hx hb dL_law_439 rfl (lv_at hl 0 rfl) ?_
  refine lv_iload_n hx hb dL_law_440 rfl (lv_at hl 3 rfl) ?_
  refine lv_iconst (v := 1) hx hb dL_law_441 (by decide) ?_
  refine lv_iadd hx hb dL_law_442 ?_
  refine va_sld hx hb hX hbl hbA hS (nx_in (show (nI i1) + 1 = nI ((i1) + 1) from by show (nI i1) + nI 1 = _; simp only [nI_add, pk_mul]) (by omega) (by omega)) dL_law_443 ?_
  rw [nx_cl (show (nI i1) + 1 = nI ((i1) + 1) from by show (nI i1) + nI 1 = _; simp only [nI_add, pk_mul]) (by omega)]
  refine lv_aload_n hx hb dL_law_444 rfl (lv_at hl 0 rfl) ?_
  refine lv_iload_n hx hb dL_law_445 rfl (lv_at hl 3 rfl) ?_
  refine lv_iconst (v := 2) hx hb dL_law_446 (by decide) ?_
  refine lv_iadd hx hb dL_law_447 ?_
  refine va_sld hx hb hX hbl hbA hS (nx_in (show (nI i1) + 2 = nI ((i1) + 2) from by show (nI i1) + nI 2 = _; simp only [nI_add, pk_mul]) (by omega) (by omega)) dL_law_448 ?_
  rw [nx_cl (show (nI i1) + 2 = nI ((i1) + 2) from by show (nI i1) + nI 2 = _; simp only [nI_add, pk_mul]) (by omega)]
  refine vp_callSi (W.runV (As := [.int (xs ((i1) + 1)), .int (xs ((i1) + 2))]) (rest := [.int (s_X11_told F M (xs ((i1) + 1)) (xs ((i1) + 2)))]) ⟨hx, hb, hml, hown, hts⟩ (c_X11_told l dC dI h a cI cB cZ F M (xs ((i1) + 1)) (xs ((i1) + 2)) hv.1) (cwV 2 hts gL_law_X11_told rfl rfl rfl (by decide +kernel) ⟨Nat.le_of_ble_eq_true rfl, Nat.le_of_ble_eq_true rfl⟩) ⟨pm_blind, va_recv hK3 hPR (ci := 10) (q0 := 0) rfl rfl, fun U hU hW => ⟨rfl, by rw [hU]; exact hPR, va_K.moved hW.alike hK3⟩⟩ rfl rfl hl.1 rfl (lv_room (Nat.le_of_ble_eq_true rfl)) dL_law_449 ⟨show 100 + 2 * k + 0 ≤ 600000 by omega, show 3000 + 12 * k + 0 ≤ 7302250 by omega⟩) (fun r hr9 => ?_)
  subst hr9
  refine lv_icmp_eq (tgt := 1452) hx hb dL_law_452 (by decide) (fun _ => ?_) (fun c => absurd rfl c)
  refine W.widen (k := 100 + 2 * (k + 1)) (n := 3000 + 12 * (k + 1)) (by omega) (by omega) ?_
  exact KK H locs ls ⟨F, M, Y, rl, ad, hv, rfl, hrl, hPX, hDX, hPR, hDR, hS, hAR⟩ (lv_sub hl [0, 1, 2, 3] rfl)

set_option maxHeartbeats 4000000 in
set_option maxRecDepth 100000 in
theorem lc_mark {p : Program} {l : Launch} {e : Env} {s : State} {m : MethodId} {below : List Frame} {meth : Method} {c : Code} {dC : Nat → ClassId} {dI : Nat → Nat → Nat} {cy : Nat → ClassId} {cI cB cZ : ClassId} {h : Nat} {a : Nat → Nat} {b L : Nat} {xs : Nat → Int32} (hL : L ≤ 3584) (C0 : lw_At p s m meth c b L xs) (hSt : lS s dC dI cy cI cB cZ) (k i1 : Nat) (hik : i1 = 7 * k) (hi7 : i1 + 7 ≤ L) (qx : Nat) (H : Heap) (locs : List Loc) (hv9 : lI s dC dI cy cI cB cZ h a qx H locs) (ls : Array Slot) (hl : lv_has ls 4 [(0, .ref b), (1, .ref qx), (2, .ref h), (3, .int (nI i1))])
    (KK : ∀ (H1 : Heap) (locs1 : List Loc) (ls1 : Array Slot), lI s dC dI cy cI cB cZ h a qx H1 locs1 → lv_has ls1 4 [(0, .ref b), (1, .ref qx), (2, .ref h), (3, .int (nI i1))] → W p l e room_1 s m #[Value.ref b] below meth c H1 locs1 (100 + 2 * (k + 1)) (3000 + 12 * (k + 1)) (lw_Z below #[Value.ref b] s) (F0 m 1452 ls1 [])) :
    W p l e room_1 s m #[Value.ref b] below meth c H locs (100 + 2 * k) (3000 + 12 * k) (lw_Z below #[Value.ref b] s) (F0 m 457 ls []) := by
  obtain ⟨hx, hb, hr, hml, hown, hts0, hX, hbl, hlocks, hgv⟩ := C0
  obtain ⟨hK, hN, hK3, hO4⟩ := hSt
  obtain ⟨F, M, Y, rl, ad, hv, hq, hrl, hPX, hDX, hPR, hDR, hS, hAR⟩ := hv9
  subst hq
  have hts : ∀ w ∈ wsL_law, w.before #[Value.ref b] s = true := fun w hw => hts0 w (wsL_law_in w hw)
  replace hown : s.vm.findClass RL = some m.cls := hown
  have hbA : ¬ A0 s b := Nat.not_le.mpr hbl
  refine lv_aload_n hx hb dL_law_457 rfl (lv_at hl 1 rfl) ?_
  refine lv_aload_n hx hb dL_law_458 rfl (lv_at hl 0 rfl) ?_
  refine lv_iload_n hx hb dL_law_459 rfl (lv_at hl 3 rfl) ?_
  refine lv_iconst (v := 1) hx hb dL_law_460 (by decide) ?_
  refine lv_iadd hx hb dL_law_461 ?_
  refine va_sld hx hb hX hbl hbA hS (nx_in (show (nI i1) + 1 = nI ((i1) + 1) from by show (nI i1) + nI 1 = _; simp only [nI_add, pk_mul]) (by omega) (by omega)) dL_law_462 ?_
  rw [nx_cl (show (nI i1) + 1 = nI ((i1) + 1) from by show (nI i1) + nI 1 = _; simp only [nI_add, pk_mul]) (by omega)]
  refine lv_aload_n hx hb dL_law_463 rfl (lv_at hl 0 rfl) ?_
  refine lv_iload_n hx hb dL_law_464 rfl (lv_at hl 3 rfl) ?_
  refine lv_iconst (v := 2) hx hb dL_law_465 (by decide) ?_
  refine lv_iadd hx hb dL_law_466 ?_
  refine va_sld hx hb hX hbl hbA hS (nx_in (show (nI i1) + 2 = nI ((i1) + 2) from by show (nI i1) + nI 2 = _; simp only [nI_add, pk_mul]) (by omega) (by omega)) dL_law_467 ?_
  rw [nx_cl (show (nI i1) + 2 = nI ((i1) + 2) from by show (nI i1) + nI 2 = _; simp only [nI_add, pk_mul]) (by omega)]
  refine va_calli (va_runV (As := [.int (xs ((i1) + 1)), .int (xs ((i1) + 2))]) (rest := []) ⟨hx, hb, hml, hown, hts⟩ (c_X10_mark l dC dI rl ad cy F M Y (xs ((i1) + 1)) (xs ((i1) + 2)) hrl hv.1 hv.2 (AX s h a) hDX) (cwV 2 hts gL_law_X10_mark rfl rfl rfl (by decide +kernel) ⟨Nat.le_of_ble_eq_true rfl, Nat.le_of_ble_eq_true rfl⟩) ⟨pc_blind, rg_recv hK hPX ((hrl _).mpr (vd_9 (by decide))) (ci := 9) rfl en_9, fun U hU hW => ⟨rfl, by rw [hU]; exact hPX, va_K.moved hW.alike hK, nst_w hW hN⟩⟩ rfl rfl hl.1 rfl (lv_room (Nat.le_of_ble_eq_true rfl)) dL_law_468 ⟨show 100 + 2 * k + 0 ≤ 600000 by omega, show 3000 + 12 * k + 0 ≤ 7302250 by omega⟩) hS (fun q _ h => h.1) (fun q h => h.1) (fun r u t H1 locs ht hvm hw hB hz1 hk1 hS => ?_)
  subst hw
  obtain ⟨⟨hP1, -, -⟩, hD1⟩ := hB
  rw [ht] at hP1
  replace hPR := wk hPR (fun k q hk => hk1 q.1 (hPR k q hk).lt (fun z => z.2 (hDR.2 k q hk)))
  refine lv_aload_n hx hb dL_law_471 rfl (lv_at hl 2 rfl) ?_
  refine lv_aload_n hx hb dL_law_472 rfl (lv_at hl 0 rfl) ?_
  refine lv_iload_n hx hb dL_law_473 rfl (lv_at hl 3 rfl) ?_
  refine lv_iconst (v := 1) hx hb dL_law_474 (by decide) ?_
  refine lv_iadd hx hb dL_law_475 ?_
  refine va_sld hx hb hX hbl hbA hS (nx_in (show (nI i1) + 1 = nI ((i1) + 1) from by show (nI i1) + nI 1 = _; simp only [nI_add, pk_mul]) (by omega) (by omega)) dL_law_476 ?_
  rw [nx_cl (show (nI i1) + 1 = nI ((i1) + 1) from by show (nI i1) + nI 1 = _; simp only [nI_add, pk_mul]) (by omega)]
  refine lv_aload_n hx hb dL_law_477 rfl (lv_at hl 0 rfl) ?_
  refine lv_iload_n hx hb dL_law_478 rfl (lv_at hl 3 rfl) ?_
  refine lv_iconst (v := 2) hx hb dL_law_479 (by decide) ?_
  refine lv_iadd hx hb dL_law_480 ?_
  refine va_sld hx hb hX hbl hbA hS (nx_in (show (nI i1) + 2 = nI ((i1) + 2) from by show (nI i1) + nI 2 = _; simp only [nI_add, pk_mul]) (by omega) (by omega)) dL_law_481 ?_
  rw [nx_cl (show (nI i1) + 2 = nI ((i1) + 2) from by show (nI i1) + nI 2 = _; simp only [nI_add, pk_mul]) (by omega)]
  refine va_calli (va_runV (As := [.int (xs ((i1) + 1)), .int (xs ((i1) + 2))]) (rest := [.int ((s_X11_mark F M (xs ((i1) + 1)) (xs ((i1) + 2))).1)]) ⟨hx, hb, hml, hown, hts⟩ (c_X11_mark l dC dI h a cI cB cZ F M (xs ((i1) + 1)) (xs ((i1) + 2)) (AR h a) hDR hv.1) (cwV 2 hts gL_law_X11_mark rfl rfl rfl (by decide +kernel) ⟨Nat.le_of_ble_eq_true rfl, Nat.le_of_ble_eq_true rfl⟩) ⟨pm_blind, va_recv hK3 hPR (ci := 10) (q0 := 0) rfl rfl, fun U hU hW => ⟨rfl, by rw [hU]; exact hPR, va_K.moved hW.alike hK3⟩⟩ rfl rfl hl.1 rfl (lv_room (Nat.le_of_ble_eq_true rfl)) dL_law_482 ⟨show 100 + 2 * k + 0 + 0 ≤ 600000 by omega, show 3000 + 12 * k + 0 + 0 ≤ 7302250 by omega⟩) hS (fun q _ h => hAR q h) (fun q h => hAR q h) (fun r u t H2 locs ht hvm hw hB hz2 hk2 hS => ?_)
  obtain ⟨hr9, hu9⟩ : r = (s_X11_mark F M (xs ((i1) + 1)) (xs ((i1) + 2))).1 ∧ u = (s_X11_mark F M (xs ((i1) + 1)) (xs ((i1) + 2))).2 := ⟨congrArg Prod.fst hw, congrArg Prod.snd hw⟩
  subst hr9; subst hu9
  obtain ⟨⟨hP2, -⟩, hD2⟩ := hB
  rw [ht] at hP2
  have hPX := wk hP1 (fun k q hk => hk2 q.1 (hP1 k q hk).lt (hD1.2 k q hk).2)
  have hDX := hD1; have hPR := hP2
  refine lv_icmp_eq (tgt := 1452) hx hb dL_law_485 (by decide) (fun _ => ?_) (fun c => absurd rfl c)
  refine W.widen (k := 100 + 2 * (k + 1)) (n := 3000 + 12 * (k + 1)) (by omega) (by omega) ?_
  exact KK _ _ _ ⟨(s_X11_mark F M (xs ((i1) + 1)) (xs ((i1) + 2))).2.1, (s_X11_mark F M (xs ((i1) + 1)) (xs ((i1) + 2))).2.2, _, rl, ad, k_mark (xs ((i1) + 1)) (xs ((i1) + 2)) hv.1 hv.2, rfl, fun r => (hrl r).trans (v_mark F M (xs ((i1) + 1)) (xs ((i1) + 2)) r).symm, hPX, hDX, hPR, dR hD2, hS, hAR⟩ (lv_sub hl [0, 1, 2, 3] rfl)
