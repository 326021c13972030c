def L_renew (F : Nat → Int32) (M : Nat → Nat → Int32) (j : Nat) (p0 : Int32) : Nat → (Nat → Int32)
  | 0 => M 44
  | i1 + 1 =>
    upd (L_renew F M j p0 i1) (12 * j + i1) (vp_nar .byte 0)
set_option maxHeartbeats 4000000 in
set_option maxRecDepth 100000 in
theorem c_X8_renew (l : Launch) (dC : Nat → ClassId) (dI : Nat → Nat → Nat) (rl : List (Nat × Nat)) (ad : Nat × Nat → Nat) (cy : Nat → ClassId) (F : Nat → Int32) (M Y : Nat → Nat → Int32) (j : Nat) (p0 : Int32) (hrl : ∀ r, r ∈ rl ↔ vd F r) (hI : iv F M) (hJ : jv F M) (A : Nat → Prop) (hD : va_D A (rx_W rl ad (eC ad cy F M Y))) (hj : j < 4) (hn : ¬ p0 < 0) : Met l yX8_renew wsX8_renew ({ frames := 0, cells := 0, slots := 0, locals := 0 } : Room) (va_Pc [.ref (ad (7, j)), .int p0] (pC dC dI rl ad cy (eC ad cy F M Y))) (va_Qv (fun (_ : Nat → Nat → Int32) => True) (qC A dC dI rl ad cy (F) (va_up (va_up M 43 (upd (M 43) j p0)) 44 (L_renew F M j p0 12))) A) 0 0 A := by
  refine Met.ofW (cc := cX8_renew) (maxL := 3) (ret := none) (by decide) rfl ?_
  intro p e s m args below meth c s₁ B hml hv
  obtain ⟨rfl, hP, hK, hN⟩ := hv
  have hx := B.exec
  have hb := B.bytes
  have hr := B.returns
  have hts := atoms_spec (ws := wsX8_renew) B.pre
  have hown : s.vm.findClass RX8 = some m.cls := findClass_of_methodNamed B.named
  have hlocks := B.notSynchronized
  have hin8 : ∀ w ∈ wsX80, w ∈ wsX8_renew := by decide +kernel
  have hS : va_S A s.heap s.heap [] := va_S.rf
  have hl := lv_entry ([.ref (ad (7, j)), .int p0]) (n := 3) (Nat.le_of_ble_eq_true rfl)
  rw [lg_entry_eq]
  generalize (lg_sl ([.ref (ad (7, j)), .int p0]) ++ List.replicate (3 - (lg_sl ([.ref (ad (7, j)), .int p0])).length) Slot.unset).toArray = ls at hl ⊢
  have hl : lv_has ls 3 [(0, .ref (ad (7, j))), (1, .int p0)] := hl
  refine lv_aload_n hx hb dX8_renew_0 rfl (lv_at hl 0 rfl) ?_
  refine lv_iconst (v := 0) hx hb dX8_renew_1 (by decide) ?_
  refine rg_put (D := (dC, dI)) (r := (7, j)) (ci := 7) (v := .int 0) (ty := .boolean) (C := RX8) (T := TX8) (N := 3) hx hb hts hin8 tyX8 tyX8_ok nmX8 hown hK hP hD hS ((hrl _).mpr (vd_7 hj)) en_7 rfl 0 (by decide) (hts (.fieldLink RX8 9 "SocietyBook$Sheet" "missing" "Z") (by decide +kernel)) (fun _ h9 => h9) rfl (by decide +kernel) rfl rfl (Nat.le_of_ble_eq_true rfl) dX8_renew_2 (fun H locs hP hD hS => ?_)
  replace hP : va_P (dC, dI) vwCl (rx_W rl ad (ru_ (eC ad cy F M Y) (7, j) (.inr (7, [.int 0, .int (if M 43 j < 0 then Y 2 j else M 43 j), .ref (ad (24, j))])))) H := hP
  replace hD : va_D A (rx_W rl ad (ru_ (eC ad cy F M Y) (7, j) (.inr (7, [.int 0, .int (if M 43 j < 0 then Y 2 j else M 43 j), .ref (ad (24, j))])))) := hD
  refine lv_aload_n hx hb dX8_renew_5 rfl (lv_at hl 0 rfl) ?_
  refine lv_iload_n hx hb dX8_renew_6 rfl (lv_at hl 1 rfl) ?_
  refine rg_put (D := (dC, dI)) (r := (7, j)) (ci := 7) (v := .int p0) (ty := .int) (C := RX8) (T := TX8) (N := 3) hx hb hts hin8 tyX8 tyX8_ok nmX8 hown hK hP hD hS ((hrl _).mpr (vd_7 hj)) ru_s rfl 1 (by decide) (hts (.fieldLink RX8 19 "SocietyBook$Sheet" "size" "I") (by decide +kernel)) (fun _ h9 => h9) rfl (by decide +kernel) rfl rfl (Nat.le_of_ble_eq_true rfl) dX8_renew_7 (fun H locs hP hD hS => ?_)
  replace hP : va_P (dC, dI) vwCl (rx_W rl ad (eC ad cy F (va_up M 43 (upd (M 43) j p0)) Y)) H := ec_mp (ec_ren ad cy F M Y j (if M 43 j < 0 then Y 2 j else M 43 j) p0 hn) hP
  replace hD : va_D A (rx_W rl ad (eC ad cy F (va_up M 43 (upd (M 43) j p0)) Y)) := rx_D hD
  refine lv_iconst (v := 0) hx hb dX8_renew_10 (by decide) ?_
  refine lv_istore_n (lv' := [(2, .int 0), (0, .ref (ad (7, j))), (1, .int p0)]) hx hb dX8_renew_11 rfl hl (by decide) rfl (fun ls hl => ?_)
  refine lp_forH (N := 12) (lv := fun i1 => [(2, .int (nI i1)), (0, .ref (ad (7, j))), (1, .int p0)]) (wd := fun i1 => rx_W rl ad (eC ad cy F (va_up (va_up M 43 (upd (M 43) j p0)) 44 (L_renew F M j p0 i1)) Y)) hP hD hS (lv_sub hl [0, 1, 2] rfl) (fun i1 hi1 ls H locs hl hP hD hS kk1 => ?_) (fun ls H locs hl hP hD hS => ?_)
  · replace hl : lv_has ls 3 [(2, .int (nI i1)), (0, .ref (ad (7, j))), (1, .int p0)] := hl
    replace hP : va_P (dC, dI) vwCl (rx_W rl ad (eC ad cy F (va_up (va_up M 43 (upd (M 43) j p0)) 44 (L_renew F M j p0 i1)) Y)) H := hP
    replace hD : va_D A (rx_W rl ad (eC ad cy F (va_up (va_up M 43 (upd (M 43) j p0)) 44 (L_renew F M j p0 i1)) Y)) := hD
    refine lv_iload_n hx hb dX8_renew_12 rfl (lv_at hl 0 rfl) ?_
    refine lv_bipush (v := 12) hx hb dX8_renew_13 (by decide) ?_
    refine lv_icmp_ge (tgt := 31) hx hb dX8_renew_15 (by decide) (fun c => absurd c (lb_n (by decide) hi1)) (fun _ => ?_)
    refine lv_aload_n hx hb dX8_renew_18 rfl (lv_at hl 1 rfl) ?_
    refine rg_get (D := (dC, dI)) (r := (7, j)) (ci := 7) (v := .ref (ad (24, j))) (C := RX8) (T := TX8) (N := 3) hx hb hts hin8 hown hK hP ((hrl _).mpr (vd_7 hj)) en_7 rfl 2 (by decide) (hts (.fieldLink RX8 15 "SocietyBook$Sheet" "bytes" "[B") (by decide +kernel)) (fun _ h9 => h9) rfl dX8_renew_19 ?_
    refine lv_iload_n hx hb dX8_renew_22 rfl (lv_at hl 0 rfl) ?_
    refine lv_iconst (v := 0) hx hb dX8_renew_23 (by decide) ?_
    refine rg_bast (r := (24, j)) hx hb hK hP hD hS ((hrl _).mpr (vd_24 hj)) 1 en_24 rfl (vp_in_nI (show i1 < 12 by omega) (by decide)) dX8_renew_24 (fun H locs hP hD hS => ?_)
    rw [nI_clamp (show i1 < 2 ^ 31 by omega)] at hP
    replace hP : va_P (dC, dI) vwCl (rx_W rl ad (eC ad cy F (va_up (va_up M 43 (upd (M 43) j p0)) 44 (upd (L_renew F M j p0 i1) (12 * j + i1) (vp_nar .byte 0))) Y)) H := ec_mp (ec_24 ad cy F (va_up (va_up M 43 (upd (M 43) j p0)) 44 (L_renew F M j p0 i1)) Y j i1 (show i1 < 12 by omega) (vp_nar .byte 0)) hP
    replace hD : va_D A (rx_W rl ad (eC ad cy F (va_up (va_up M 43 (upd (M 43) j p0)) 44 (upd (L_renew F M j p0 i1) (12 * j + i1) (vp_nar .byte 0))) Y)) := rx_D hD
    refine lv_iinc (v := nI (i1 + 1)) (lv' := [(2, .int (nI (i1 + 1))), (0, .ref (ad (7, j))), (1, .int p0)]) hx hb dX8_renew_25 hl (k := 0) rfl (nI_1 i1) (by decide) rfl (fun ls hl => ?_)
    refine lv_goto (tgt := 12) hx hb dX8_renew_28 (by decide) ?_
    have e9 : L_renew F M j p0 (i1 + 1) = upd (L_renew F M j p0 i1) (12 * j + i1) (vp_nar .byte 0) := by rw [L_renew]
    refine kk1 ls H locs (show lv_has ls 3 [(2, .int (nI (i1 + 1))), (0, .ref (ad (7, j))), (1, .int p0)] from ?_) (show va_P (dC, dI) vwCl (rx_W rl ad (eC ad cy F (va_up (va_up M 43 (upd (M 43) j p0)) 44 (L_renew F M j p0 (i1 + 1))) Y)) H from ?_) (show va_D A (rx_W rl ad (eC ad cy F (va_up (va_up M 43 (upd (M 43) j p0)) 44 (L_renew F M j p0 (i1 + 1))) Y)) from ?_) hS
    · exact lv_sub hl [0, 1, 2] rfl
    · rw [e9]; exact hP
    · rw [e9]; exact hD
  · replace hl : lv_has ls 3 [(2, .int (nI 12)), (0, .ref (ad (7, j))), (1, .int p0)] := hl
    replace hP : va_P (dC, dI) vwCl (rx_W rl ad (eC ad cy F (va_up (va_up M 43 (upd (M 43) j p0)) 44 (L_renew F M j p0 12)) Y)) H := hP
    replace hD : va_D A (rx_W rl ad (eC ad cy F (va_up (va_up M 43 (upd (M 43) j p0)) 44 (L_renew F M j p0 12)) Y)) := hD
    refine lv_iload_n hx hb dX8_renew_12 rfl (lv_at hl 0 rfl) ?_
    refine lv_bipush (v := 12) hx hb dX8_renew_13 (by decide) ?_
    refine lv_icmp_ge (tgt := 31) hx hb dX8_renew_15 (by decide) (fun _ => ?_) (fun c => absurd (lb_y (by decide)) c)
    exact W.vret hx hb hr (fun t ht hW => ⟨⟨Y, rfl, trivial, ⟨⟨by rw [ht]; exact hP, va_K.moved hW.alike hK, nst_w hW hN⟩, hD⟩⟩, hS.F ht⟩) hS.2.2 dX8_renew_31


theorem cl12n {x : Int32} {S k : Nat} (h1 : vp_in x S) (h2 : k < 12) (hN : S < 1000) : (12 * x + nI k).toNatClampNeg = 12 * x.toNatClampNeg + k := by
  rw [cl12 h1 (vp_in_nI h2 (by decide)) hN, nI_clamp (by omega)]
theorem sh_eq {F : Nat → Int32} {M : Nat → Nat → Int32} {p0 p1 : Int32} (h : vp_in p0 4) : ∀ n, n ≤ 12 → L_sheet F M p0 p1 n = L_renew F M p0.toNatClampNeg p1 n := by
  intro n
  induction n with
  | zero => intro _; rfl
  | succ n ih =>
    intro hn
    rw [L_sheet, L_renew, ih (by omega), cl12n h (by omega) (by decide)]

set_option maxHeartbeats 4000000 in
set_option maxRecDepth 100000 in
theorem c_X10_sheet (l : Launch) (dC : Nat → ClassId) (dI : Nat → Nat → Nat) (rl : List (Nat × Nat)) (ad : Nat × Nat → Nat) (cy : Nat → ClassId) (F : Nat → Int32) (M Y : Nat → Nat → Int32) (p0 : Int32) (p1 : Int32) (hrl : ∀ r, r ∈ rl ↔ vd F r) (hI : iv F M) (hJ : jv F M) (A : Nat → Prop) (hD : va_D A (rx_W rl ad (eC ad cy F M Y))) : Met l yX10_sheet wsX10_sheet ({ frames := 2, cells := 0, slots := 0, locals := 42 } : Room) (va_Pc [.ref (ad (9, 0)), .int p0, .int p1] (pC dC dI rl ad cy (eC ad cy F M Y))) (va_Qi (fun r (_ : Nat → Nat → Int32) => r = (s_X11_sheet F M p0 p1).1) (qC A dC dI rl ad cy (s_X11_sheet F M p0 p1).2.1 (s_X11_sheet F M p0 p1).2.2) A) 0 0 A := by
  refine Met.ofW (cc := cX10_sheet) (maxL := 3) (ret := (some .int)) (by decide) rfl ?_
  intro p e s m args below meth c s₁ B hml hv
  obtain ⟨rfl, hP, hK, hN⟩ := hv
  have hx := B.exec
  have hb := B.bytes
  have hr := B.returns
  have hts := atoms_spec (ws := wsX10_sheet) B.pre
  have hown : s.vm.findClass RX10 = some m.cls := findClass_of_methodNamed B.named
  have hlocks := B.notSynchronized
  have hin10 : ∀ w ∈ wsX100, w ∈ wsX10_sheet := by decide +kernel
  have hS : va_S A s.heap s.heap [] := va_S.rf
  have hl := lv_entry ([.ref (ad (9, 0)), .int p0, .int p1]) (n := 3) (Nat.le_of_ble_eq_true rfl)
  rw [lg_entry_eq]
  generalize (lg_sl ([.ref (ad (9, 0)), .int p0, .int p1]) ++ List.replicate (3 - (lg_sl ([.ref (ad (9, 0)), .int p0, .int p1])).length) Slot.unset).toArray = ls at hl ⊢
  have hl : lv_has ls 3 [(0, .ref (ad (9, 0))), (1, .int p0), (2, .int p1)] := hl
  refine lv_iload_n hx hb dX10_sheet_0 rfl (lv_at hl 1 rfl) ?_
  refine vp_callSi (W.runS (As := [.int p0]) (rest := []) ⟨hx, hb, hml, hown, hts⟩ (c_X10_isSheet l p0) (va_cwS 1 hts gX10_sheet_X10_isSheet rfl rfl rfl (by decide +kernel) ⟨Nat.le_of_ble_eq_true rfl, Nat.le_of_ble_eq_true rfl⟩) ⟨fun _ _ _ _ q => q, fun U hU hW => ⟨rfl, trivial⟩⟩ rfl rfl hl.1 rfl (lv_room (Nat.le_of_ble_eq_true rfl)) dX10_sheet_1 ⟨Nat.zero_le _, Nat.zero_le _⟩) (fun r hr9 => ?_)
  subst hr9
  refine lv_if_eq (tgt := 13) hx hb dX10_sheet_4 (by decide) (fun c1 => ?_) (fun c1 => ?_)
  · replace c1 := bo_f c1
    refine lv_iconst (v := (-1)) hx hb dX10_sheet_13 (by decide) ?_
    have E9 : s_X11_sheet F M p0 p1 = ((-1), (F, M)) := by unfold s_X11_sheet; rw [if_neg c1]
    exact W.iret (v := (-1)) hx hb hr (fun t ht hW => ⟨⟨(-1), Y, rfl, by rw [E9], by rw [E9]; exact ⟨⟨by rw [ht]; exact hP, va_K.moved hW.alike hK, nst_w hW hN⟩, hD⟩⟩, hS.F ht⟩) hS.2.2 dX10_sheet_14
  · replace c1 := bo_t c1
    refine lv_iload_n hx hb dX10_sheet_7 rfl (lv_at hl 2 rfl) ?_
    refine lv_bipush (v := 12) hx hb dX10_sheet_8 (by decide) ?_
    refine lv_icmp_le (tgt := 15) hx hb dX10_sheet_10 (by decide) (fun c2 => ?_) (fun c2 => ?_)
    · refine lv_iload_n hx hb dX10_sheet_15 rfl (lv_at hl 2 rfl) ?_
      refine lv_if_ge (tgt := 25) hx hb dX10_sheet_16 (by decide) (fun c3 => ?_) (fun c3 => ?_)
      · refine lv_aload_n hx hb dX10_sheet_25 rfl (lv_at hl 0 rfl) ?_
        refine rg_get (D := (dC, dI)) (r := (9, 0)) (ci := 9) (v := .ref (ad (17, 0))) (C := RX10) (T := TX10) (N := 19) hx hb hts hin10 hown hK hP ((hrl _).mpr (vd_9 (by decide))) en_9 rfl 15 (by decide) (hts (.fieldLink RX10 54 "SocietyBook" "sheets" "[LSocietyBook$Sheet;") (by decide +kernel)) (fun _ h9 => h9) rfl dX10_sheet_26 ?_
        refine lv_iload_n hx hb dX10_sheet_29 rfl (lv_at hl 1 rfl) ?_
        refine rg_aldq (r := (17, 0)) (v := .ref (ad (7, p0.toNatClampNeg))) hx hb hK hP ((hrl _).mpr (vd_17 (by decide))) 9 en_17 rfl (ib_in c1 (by decide)) rfl dX10_sheet_30 ?_
        refine lv_iload_n hx hb dX10_sheet_31 rfl (lv_at hl 2 rfl) ?_
        refine va_callv (va_runV (As := [.int p1]) (rest := []) ⟨hx, hb, hml, hown, hts⟩ (c_X8_renew l dC dI rl ad cy F M Y p0.toNatClampNeg p1 hrl hI hJ A hD (ib_cl (ib_in c1 (by decide))).2 (Int32.not_lt.mpr c3)) (cwV 1 hts gX10_sheet_X8_renew rfl rfl rfl (by decide +kernel) ⟨Nat.le_of_ble_eq_true rfl, Nat.le_of_ble_eq_true rfl⟩) ⟨pc_blind, rg_recv hK hP ((hrl _).mpr (vd_7 (ib_cl (ib_in c1 (by decide))).2)) (ci := 7) rfl en_7, fun U hU hW => ⟨rfl, by rw [hU]; exact hP, va_K.moved hW.alike hK, nst_w hW hN⟩⟩ rfl rfl hl.1 rfl (lv_room (Nat.le_of_ble_eq_true rfl)) dX10_sheet_32 ⟨Nat.zero_le _, Nat.zero_le _⟩) hS (fun q _ h => h) (fun q h => h) (fun u t H1 locs ht hvm hw hB hz1 hk1 hS => ?_)
        obtain ⟨⟨hP, -, -⟩, hD⟩ := hB
        rw [ht] at hP
        clear hz1 hk1 ht hvm; generalize H1 = H at hP hS ⊢
        replace hP : va_P (dC, dI) vwCl (rx_W rl ad (eC ad cy F (va_up (va_up M 43 (upd (M 43) p0.toNatClampNeg p1)) 44 (L_renew F M p0.toNatClampNeg p1 12)) u)) H := hP
        replace hD : va_D A (rx_W rl ad (eC ad cy F (va_up (va_up M 43 (upd (M 43) p0.toNatClampNeg p1)) 44 (L_renew F M p0.toNatClampNeg p1 12)) u)) := hD
        refine lv_iload_n hx hb dX10_sheet_35 rfl (lv_at hl 2 rfl) ?_
        have E9 : s_X11_sheet F M p0 p1 = (p1, (F, va_up (va_up M 43 (upd (M 43) p0.toNatClampNeg p1)) 44 (L_renew F M p0.toNatClampNeg p1 12))) := by unfold s_X11_sheet; rw [if_pos c1]; rw [if_pos c2]; rw [if_pos c3]; rw [sh_eq (ib_in c1 (by decide)) 12 (by decide)]
        exact W.iret (v := p1) hx hb hr (fun t ht hW => ⟨⟨p1, u, rfl, by rw [E9], by rw [E9]; exact ⟨⟨by rw [ht]; exact hP, va_K.moved hW.alike hK, nst_w hW hN⟩, hD⟩⟩, hS.F ht⟩) hS.2.2 dX10_sheet_36
      · refine lv_aload_n hx hb dX10_sheet_19 rfl (lv_at hl 0 rfl) ?_
        refine lv_iconst (v := 5) hx hb dX10_sheet_20 (by decide) ?_
        refine va_calli (va_runV (As := [.int 5]) (rest := []) ⟨hx, hb, hml, hown, hts⟩ (c_X10_found l dC dI rl ad cy F M Y  5 hrl hI hJ A hD (ib_lit (by decide))) (cwV 1 hts gX10_sheet_X10_found rfl rfl rfl (by decide +kernel) ⟨Nat.le_of_ble_eq_true rfl, Nat.le_of_ble_eq_true rfl⟩) ⟨pc_blind, rg_recv hK hP ((hrl _).mpr (vd_9 (by decide))) (ci := 9) rfl en_9, fun U hU hW => ⟨rfl, by rw [hU]; exact hP, va_K.moved hW.alike hK, nst_w hW hN⟩⟩ rfl rfl hl.1 rfl (lv_room (Nat.le_of_ble_eq_true rfl)) dX10_sheet_21 ⟨Nat.zero_le _, Nat.zero_le _⟩) hS (fun q _ h => h) (fun q h => h) (fun r u t H1 locs ht hvm hw hB hz1 hk1 hS => ?_)
        subst hw
        obtain ⟨⟨hP, -, -⟩, hD⟩ := hB
        rw [ht] at hP
        clear hz1 hk1 ht hvm; generalize H1 = H at hP hS ⊢
        skip
        have E9 : s_X11_sheet F M p0 p1 = ((s_X11_meets F M 5).1, ((s_X11_meets F M 5).2.1, (s_X11_meets F M 5).2.2)) := by unfold s_X11_sheet; rw [if_pos c1]; rw [if_pos c2]; rw [if_neg c3]
        exact W.iret (v := (s_X11_meets F M 5).1) hx hb hr (fun t ht hW => ⟨⟨(s_X11_meets F M 5).1, u, rfl, by rw [E9], by rw [E9]; exact ⟨⟨by rw [ht]; exact hP, va_K.moved hW.alike hK, nst_w hW hN⟩, hD⟩⟩, hS.F ht⟩) hS.2.2 dX10_sheet_24
    · refine lv_iconst (v := (-1)) hx hb dX10_sheet_13 (by decide) ?_
      have E9 : s_X11_sheet F M p0 p1 = ((-1), (F, M)) := by unfold s_X11_sheet; rw [if_pos c1]; rw [if_neg c2]
      exact W.iret (v := (-1)) hx hb hr (fun t ht hW => ⟨⟨(-1), Y, rfl, by rw [E9], by rw [E9]; exact ⟨⟨by rw [ht]; exact hP, va_K.moved hW.alike hK, nst_w hW hN⟩, hD⟩⟩, hS.F ht⟩) hS.2.2 dX10_sheet_14

set_option maxHeartbeats 4000000 in
set_option maxRecDepth 100000 in
theorem c_X8_hasRun (l : Launch) (dC : Nat → ClassId) (dI : Nat → Nat → Nat) (rl : List (Nat × Nat)) (ad : Nat × Nat → Nat) (cy : Nat → ClassId) (F : Nat → Int32) (M Y : Nat → Nat → Int32) (j : Nat) (p0 : Int32) (p1 : Int32) (hrl : ∀ r, r ∈ rl ↔ vd F r) (hI : iv F M) (hJ : jv F M) (hj : j < 4) (hm : ¬ M 43 j < 0) : Met l yX8_hasRun wsX8_hasRun ({ frames := 1, cells := 0, slots := 0, locals := 22 } : Room) (va_Pc [.ref (ad (7, j)), .int p0, .int p1] (pC dC dI rl ad cy (eC ad cy F M Y))) (vp_Si (fun r => r = if (0 ≤ p1 ∧ p1 ≤ (M 43 j)) ∧ (0 ≤ p0 ∧ p0 ≤ ((M 43 j) - p1)) then 1 else 0)) 0 0 (fun _ => False) := by
  refine Met.ofW (cc := cX8_hasRun) (maxL := 3) (ret := (some .boolean)) (by decide) rfl ?_
  intro p e s m args below meth c s₁ B hml hv
  obtain ⟨rfl, hP, hK, hN⟩ := hv
  have hx := B.exec
  have hb := B.bytes
  have hr := B.returns
  have hts := atoms_spec (ws := wsX8_hasRun) B.pre
  have hown : s.vm.findClass RX8 = some m.cls := findClass_of_methodNamed B.named
  have hlocks := B.notSynchronized
  have hin8 : ∀ w ∈ wsX80, w ∈ wsX8_hasRun := by decide +kernel
  have hl := lv_entry ([.ref (ad (7, j)), .int p0, .int p1]) (n := 3) (Nat.le_of_ble_eq_true rfl)
  rw [lg_entry_eq]
  generalize (lg_sl ([.ref (ad (7, j)), .int p0, .int p1]) ++ List.replicate (3 - (lg_sl ([.ref (ad (7, j)), .int p0, .int p1])).length) Slot.unset).toArray = ls at hl ⊢
  have hl : lv_has ls 3 [(0, .ref (ad (7, j))), (1, .int p0), (2, .int p1)] := hl
  refine lv_iload_n hx hb dX8_hasRun_0 rfl (lv_at hl 2 rfl) ?_
  refine lv_iconst (v := 0) hx hb dX8_hasRun_1 (by decide) ?_
  refine lv_aload_n hx hb dX8_hasRun_2 rfl (lv_at hl 0 rfl) ?_
  refine rg_get (D := (dC, dI)) (r := (7, j)) (ci := 7) (v := .int (M 43 j)) (C := RX8) (T := TX8) (N := 3) hx hb hts hin8 hown hK hP ((hrl _).mpr (vd_7 hj)) en_7 rfl 1 (by decide) (hts (.fieldLink RX8 19 "SocietyBook$Sheet" "size" "I") (by decide +kernel)) (fun _ h9 => h9) (show some (Value.int (if M 43 j < 0 then Y 2 j else M 43 j)) = some (Value.int (M 43 j)) from by rw [if_neg hm]) dX8_hasRun_3 ?_
  refine vp_callSi (run_of (va_runSN (As := [.int p1, .int 0, .int (M 43 j)]) (rest := []) ⟨hx, hb, hml, hown, hts⟩ (c_X10_isWithin l p1 0 (M 43 j)) ⟨va_cnB 3 hts gX8_hasRun_X10_isWithin_n23 rfl rfl rfl hN.2.2.1 (hts (.initialized RX10) (by decide +kernel)) (by decide +kernel) ⟨Nat.le_of_ble_eq_true rfl, Nat.le_of_ble_eq_true rfl⟩, hts (.static yX10_isWithin) (by decide +kernel), trivial⟩ ⟨fun _ _ _ _ q => q, fun U hU hW => ⟨rfl, trivial⟩⟩ rfl rfl hl.1 rfl (lv_room (Nat.le_of_ble_eq_true rfl)) dX8_hasRun_6 ⟨Nat.zero_le _, Nat.zero_le _⟩)) (fun r hr9 => ?_)
  subst hr9
  refine lv_if_eq (tgt := 30) hx hb dX8_hasRun_9 (by decide) (fun c1 => ?_) (fun c1 => ?_)
  · replace c1 := bo_f c1
    refine lv_iconst (v := 0) hx hb dX8_hasRun_30 (by decide) ?_
    exact W.zret (v := 0) hx hb hr (rfl) (fun t ht hW => ⟨0, rfl, by exact (if_neg (fun q => c1 q.1)).symm, ht⟩) (fun _ h => by cases h) dX8_hasRun_31
  · replace c1 := bo_t c1
    refine lv_iload_n hx hb dX8_hasRun_12 rfl (lv_at hl 1 rfl) ?_
    refine lv_iconst (v := 0) hx hb dX8_hasRun_13 (by decide) ?_
    refine lv_aload_n hx hb dX8_hasRun_14 rfl (lv_at hl 0 rfl) ?_
    refine rg_get (D := (dC, dI)) (r := (7, j)) (ci := 7) (v := .int (M 43 j)) (C := RX8) (T := TX8) (N := 3) hx hb hts hin8 hown hK hP ((hrl _).mpr (vd_7 hj)) en_7 rfl 1 (by decide) (hts (.fieldLink RX8 19 "SocietyBook$Sheet" "size" "I") (by decide +kernel)) (fun _ h9 => h9) (show some (Value.int (if M 43 j < 0 then Y 2 j else M 43 j)) = some (Value.int (M 43 j)) from by rw [if_neg hm]) dX8_hasRun_15 ?_
    refine lv_iload_n hx hb dX8_hasRun_18 rfl (lv_at hl 2 rfl) ?_
    refine lv_isub hx hb dX8_hasRun_19 ?_
    refine vp_callSi (run_of (va_runSN (As := [.int p0, .int 0, .int ((M 43 j) - p1)]) (rest := []) ⟨hx, hb, hml, hown, hts⟩ (c_X10_isWithin l p0 0 ((M 43 j) - p1)) ⟨va_cnB 3 hts gX8_hasRun_X10_isWithin_n23 rfl rfl rfl hN.2.2.1 (hts (.initialized RX10) (by decide +kernel)) (by decide +kernel) ⟨Nat.le_of_ble_eq_true rfl, Nat.le_of_ble_eq_true rfl⟩, hts (.static yX10_isWithin) (by decide +kernel), trivial⟩ ⟨fun _ _ _ _ q => q, fun U hU hW => ⟨rfl, trivial⟩⟩ rfl rfl hl.1 rfl (lv_room (Nat.le_of_ble_eq_true rfl)) dX8_hasRun_20 ⟨Nat.zero_le _, Nat.zero_le _⟩)) (fun r hr9 => ?_)
    subst hr9
    refine lv_if_eq (tgt := 30) hx hb dX8_hasRun_23 (by decide) (fun c2 => ?_) (fun c2 => ?_)
    · replace c2 := bo_f c2
      refine lv_iconst (v := 0) hx hb dX8_hasRun_30 (by decide) ?_
      exact W.zret (v := 0) hx hb hr (rfl) (fun t ht hW => ⟨0, rfl, by exact (if_neg (fun q => c2 q.2)).symm, ht⟩) (fun _ h => by cases h) dX8_hasRun_31
    · replace c2 := bo_t c2
      refine lv_iconst (v := 1) hx hb dX8_hasRun_26 (by decide) ?_
      refine lv_goto (tgt := 31) hx hb dX8_hasRun_27 (by decide) ?_
      exact W.zret (v := 1) hx hb hr (rfl) (fun t ht hW => ⟨1, rfl, by exact (if_pos ⟨c1, c2⟩).symm, ht⟩) (fun _ h => by cases h) dX8_hasRun_31

def L_take (F : Nat → Int32) (M : Nat → Nat → Int32) (i : Nat) (p0 : Int32) : Nat → Int32 × (Nat → Int32)
  | 0 => (0, M 42)
  | i1 + 1 =>
    if (M 43 i) ≤ (nI i1) then (((L_take F M i p0 i1).1) + (((L_take F M i p0 i1).2) (12 * p0.toNatClampNeg + i1)), (L_take F M i p0 i1).2) else
    (((L_take F M i p0 i1).1) + ((upd ((L_take F M i p0 i1).2) (12 * p0.toNatClampNeg + i1) (if 0 < (if ((M 44) (12 * i + i1)) < 9 then ((M 44) (12 * i + i1)) else 9) then (if ((M 44) (12 * i + i1)) < 9 then ((M 44) (12 * i + i1)) else 9) else 0)) (12 * p0.toNatClampNeg + i1)), upd ((L_take F M i p0 i1).2) (12 * p0.toNatClampNeg + i1) (if 0 < (if ((M 44) (12 * i + i1)) < 9 then ((M 44) (12 * i + i1)) else 9) then (if ((M 44) (12 * i + i1)) < 9 then ((M 44) (12 * i + i1)) else 9) else 0))
set_option maxHeartbeats 4000000 in
set_option maxRecDepth 100000 in
theorem c_X2_take (l : Launch) (dC : Nat → ClassId) (dI : Nat → Nat → Nat) (rl : List (Nat × Nat)) (ad : Nat × Nat → Nat) (cy : Nat → ClassId) (F : Nat → Int32) (M Y : Nat → Nat → Int32) (i : Nat) (p0 : Int32) (hrl : ∀ r, r ∈ rl ↔ vd F r) (hI : iv F M) (hJ : jv F M) (A : Nat → Prop) (hD : va_D A (rx_W rl ad (eC ad cy F M Y))) (hh : vp_in p0 6) (hi : i < 4) (hm : ¬ M 43 i < 0) : Met l yX2_take wsX2_take ({ frames := 1, cells := 0, slots := 0, locals := 16 } : Room) (va_Pc [.ref (ad (2, 0)), .int p0, .ref (ad (7, i))] (pC dC dI rl ad cy (eC ad cy F M Y))) (va_Qi (fun r (_ : Nat → Nat → Int32) => r = (L_take F M i p0 12).1) (qC A dC dI rl ad cy (F) (va_up M 42 (L_take F M i p0 12).2)) A) 0 0 A := by
  refine Met.ofW (cc := cX2_take) (maxL := 5) (ret := (some .int)) (by decide) rfl ?_
  intro p e s m args below meth c s₁ B hml hv
  obtain ⟨rfl, hP, hK, hN⟩ := hv
  have hx := B.exec
  have hb := B.bytes
  have hr := B.returns
  have hts := atoms_spec (ws := wsX2_take) B.pre
  have hown : s.vm.findClass RX2 = some m.cls := findClass_of_methodNamed B.named
  have hlocks := B.notSynchronized
  have hin2 : ∀ w ∈ wsX20, w ∈ wsX2_take := by decide +kernel
  have hin8 : ∀ w ∈ wsX80, w ∈ wsX2_take := by decide +kernel
  have hS : va_S A s.heap s.heap [] := va_S.rf
  have hl := lv_entry ([.ref (ad (2, 0)), .int p0, .ref (ad (7, i))]) (n := 5) (Nat.le_of_ble_eq_true rfl)
  rw [lg_entry_eq]
  generalize (lg_sl ([.ref (ad (2, 0)), .int p0, .ref (ad (7, i))]) ++ List.replicate (5 - (lg_sl ([.ref (ad (2, 0)), .int p0, .ref (ad (7, i))])).length) Slot.unset).toArray = ls at hl ⊢
  have hl : lv_has ls 5 [(0, .ref (ad (2, 0))), (1, .int p0), (2, .ref (ad (7, i)))] := hl
  refine lv_iconst (v := 0) hx hb dX2_take_0 (by decide) ?_
  refine lv_istore_n (lv' := [(3, .int 0), (0, .ref (ad (2, 0))), (1, .int p0), (2, .ref (ad (7, i)))]) hx hb dX2_take_1 rfl hl (by decide) rfl (fun ls hl => ?_)
  refine lv_iconst (v := 0) hx hb dX2_take_2 (by decide) ?_
  refine lv_istore (lv' := [(4, .int 0), (3, .int 0), (0, .ref (ad (2, 0))), (1, .int p0), (2, .ref (ad (7, i)))]) hx hb dX2_take_3 hl (by decide) rfl (fun ls hl => ?_)
  refine lp_forH (N := 12) (lv := fun i1 => [(4, .int (nI i1)), (3, .int ((L_take F M i p0 i1).1)), (0, .ref (ad (2, 0))), (1, .int p0), (2, .ref (ad (7, i)))]) (wd := fun i1 => rx_W rl ad (eC ad cy F (va_up M 42 ((L_take F M i p0 i1).2)) Y)) hP hD hS (lv_sub hl [0, 1, 2, 3, 4] rfl) (fun i1 hi1 ls H locs hl hP hD hS kk1 => ?_) (fun ls H locs hl hP hD hS => ?_)
  · replace hl : lv_has ls 5 [(4, .int (nI i1)), (3, .int ((L_take F M i p0 i1).1)), (0, .ref (ad (2, 0))), (1, .int p0), (2, .ref (ad (7, i)))] := hl
    replace hP : va_P (dC, dI) vwCl (rx_W rl ad (eC ad cy F (va_up M 42 ((L_take F M i p0 i1).2)) Y)) H := hP
    replace hD : va_D A (rx_W rl ad (eC ad cy F (va_up M 42 ((L_take F M i p0 i1).2)) Y)) := hD
    refine lv_iload hx hb dX2_take_5 (lv_at hl 0 rfl) ?_
    refine lv_bipush (v := 12) hx hb dX2_take_7 (by decide) ?_
    refine lv_icmp_ge (tgt := 64) hx hb dX2_take_9 (by decide) (fun c => absurd c (lb_n (by decide) hi1)) (fun _ => ?_)
    refine lv_iload hx hb dX2_take_12 (lv_at hl 0 rfl) ?_
    refine lv_aload_n hx hb dX2_take_14 rfl (lv_at hl 4 rfl) ?_
    refine rg_get (D := (dC, dI)) (r := (7, i)) (ci := 7) (v := .int (M 43 i)) (C := RX8) (T := TX8) (N := 3) hx hb hts hin8 hown hK hP ((hrl _).mpr (vd_7 hi)) en_7 rfl 1 (by decide) (hts (.fieldLink RX2 23 "SocietyBook$Sheet" "size" "I") (by decide +kernel)) (fun _ h9 => h9) (show some (Value.int (if M 43 i < 0 then Y 2 i else M 43 i)) = some (Value.int (M 43 i)) from by rw [if_neg hm]) dX2_take_15 ?_
    refine lv_icmp_ge (tgt := 46) hx hb dX2_take_18 (by decide) (fun c1 => ?_) (fun c1 => ?_)
    · refine lv_iload_n hx hb dX2_take_46 rfl (lv_at hl 1 rfl) ?_
      refine lv_aload_n hx hb dX2_take_47 rfl (lv_at hl 2 rfl) ?_
      refine rg_get (D := (dC, dI)) (r := (2, 0)) (ci := 2) (v := .ref (ad (19, 0))) (C := RX2) (T := TX2) (N := 3) hx hb hts hin2 hown hK hP ((hrl _).mpr (vd_2 (by decide))) en_2 rfl 0 (by decide) (hts (.fieldLink RX2 11 "SocietyBook$Holdings" "rows" "[[I") (by decide +kernel)) (fun _ h9 => h9) rfl dX2_take_48 ?_
      refine lv_iload_n hx hb dX2_take_51 rfl (lv_at hl 3 rfl) ?_
      refine rg_ald2 (r := (19, 0)) (v := .ref (ad (25, p0.toNatClampNeg))) hx hb hK hP ((hrl _).mpr (vd_19 (by decide))) 10 en_19 rfl hh rfl dX2_take_52 ?_
      refine lv_iload hx hb dX2_take_53 (lv_at hl 0 rfl) ?_
      refine rg_iald (r := (25, p0.toNatClampNeg)) (v := ((L_take F M i p0 i1).2) (12 * p0.toNatClampNeg + i1)) hx hb hK hP ((hrl _).mpr (vd_25 (ib_cl hh).2)) 0 en_25 rfl (vp_in_nI (show i1 < 12 by omega) (by decide)) (by rw [nI_clamp (show i1 < 2 ^ 31 by omega)]; exact if_pos (show i1 < 12 by omega)) dX2_take_55 ?_
      refine lv_iadd hx hb dX2_take_56 ?_
      refine lv_istore_n (lv' := [(3, .int (((L_take F M i p0 i1).1) + (((L_take F M i p0 i1).2) (12 * p0.toNatClampNeg + i1)))), (4, .int (nI i1)), (0, .ref (ad (2, 0))), (1, .int p0), (2, .ref (ad (7, i)))]) hx hb dX2_take_57 rfl hl (by decide) rfl (fun ls hl => ?_)
      refine lv_iinc (v := nI (i1 + 1)) (lv' := [(4, .int (nI (i1 + 1))), (3, .int (((L_take F M i p0 i1).1) + (((L_take F M i p0 i1).2) (12 * p0.toNatClampNeg + i1)))), (0, .ref (ad (2, 0))), (1, .int p0), (2, .ref (ad (7, i)))]) hx hb dX2_take_58 hl (k := 1) rfl (nI_1 i1) (by decide) rfl (fun ls hl => ?_)
      refine lv_goto (tgt := 5) hx hb dX2_take_61 (by decide) ?_
      have e9 : L_take F M i p0 (i1 + 1) = (((L_take F M i p0 i1).1) + (((L_take F M i p0 i1).2) (12 * p0.toNatClampNeg + i1)), (L_take F M i p0 i1).2) := by rw [L_take]; rw [if_pos c1]
      refine kk1 ls H locs (show lv_has ls 5 [(4, .int (nI (i1 + 1))), (3, .int ((L_take F M i p0 (i1 + 1)).1)), (0, .ref (ad (2, 0))), (1, .int p0), (2, .ref (ad (7, i)))] from ?_) (show va_P (dC, dI) vwCl (rx_W rl ad (eC ad cy F (va_up M 42 ((L_take F M i p0 (i1 + 1)).2)) Y)) H from ?_) (show va_D A (rx_W rl ad (eC ad cy F (va_up M 42 ((L_take F M i p0 (i1 + 1)).2)) Y)) from ?_) hS
      · rw [e9]; exact lv_sub hl [0, 1, 2, 3, 4] rfl
      · rw [e9]; exact hP
      · rw [e9]; exact hD
    · refine lv_aload_n hx hb dX2_take_21 rfl (lv_at hl 2 rfl) ?_
      refine rg_get (D := (dC, dI)) (r := (2, 0)) (ci := 2) (v := .ref (ad (19, 0))) (C := RX2) (T := TX2) (N := 3) hx hb hts hin2 hown hK hP ((hrl _).mpr (vd_2 (by decide))) en_2 rfl 0 (by decide) (hts (.fieldLink RX2 11 "SocietyBook$Holdings" "rows" "[[I") (by decide +kernel)) (fun _ h9 => h9) rfl dX2_take_22 ?_
      refine lv_iload_n hx hb dX2_take_25 rfl (lv_at hl 3 rfl) ?_
      refine rg_ald2 (r := (19, 0)) (v := .ref (ad (25, p0.toNatClampNeg))) hx hb hK hP ((hrl _).mpr (vd_19 (by decide))) 10 en_19 rfl hh rfl dX2_take_26 ?_
      refine lv_iload hx hb dX2_take_27 (lv_at hl 0 rfl) ?_
      refine lv_iconst (v := 0) hx hb dX2_take_29 (by decide) ?_
      refine lv_bipush (v := 9) hx hb dX2_take_30 (by decide) ?_
      refine lv_aload_n hx hb dX2_take_32 rfl (lv_at hl 4 rfl) ?_
      refine rg_get (D := (dC, dI)) (r := (7, i)) (ci := 7) (v := .ref (ad (24, i))) (C := RX8) (T := TX8) (N := 3) hx hb hts hin8 hown hK hP ((hrl _).mpr (vd_7 hi)) en_7 rfl 2 (by decide) (hts (.fieldLink RX2 29 "SocietyBook$Sheet" "bytes" "[B") (by decide +kernel)) (fun _ h9 => h9) rfl dX2_take_33 ?_
      refine lv_iload hx hb dX2_take_36 (lv_at hl 0 rfl) ?_
      refine rg_bald (r := (24, i)) (v := (M 44) (12 * i + i1)) hx hb hK hP ((hrl _).mpr (vd_24 hi)) 1 en_24 rfl (vp_in_nI (show i1 < 12 by omega) (by decide)) (by rw [nI_clamp (show i1 < 2 ^ 31 by omega)]; exact if_pos (show i1 < 12 by omega)) dX2_take_38 ?_
      refine va_mmin hx hb (hml.trans hl.1.symm) hown (hts (.methodLink RX2 33 Lib.Math.min.name) (by decide +kernel)) (hts (.static Lib.Math.min.name) (by decide +kernel)) (hts (.initialized "java/lang/Math") (by decide +kernel)) (hts (.code Lib.Math.min.name Lib.Math.min.code 2 (some .int)) (by decide +kernel)) (Nat.le_of_ble_eq_true rfl) (Nat.le_of_ble_eq_true rfl) (Nat.zero_le _) (Nat.zero_le _) dX2_take_39 ?_
      refine va_mmax hx hb (hml.trans hl.1.symm) hown (hts (.methodLink RX2 39 Lib.Math.max.name) (by decide +kernel)) (hts (.static Lib.Math.max.name) (by decide +kernel)) (hts (.initialized "java/lang/Math") (by decide +kernel)) (hts (.code Lib.Math.max.name Lib.Math.max.code 2 (some .int)) (by decide +kernel)) (Nat.le_of_ble_eq_true rfl) (Nat.le_of_ble_eq_true rfl) (Nat.zero_le _) (Nat.zero_le _) dX2_take_42 ?_
      refine rg_iast (r := (25, p0.toNatClampNeg)) hx hb hK hP hD hS ((hrl _).mpr (vd_25 (ib_cl hh).2)) 0 en_25 rfl (vp_in_nI (show i1 < 12 by omega) (by decide)) dX2_take_45 (fun H locs hP hD hS => ?_)
      rw [nI_clamp (show i1 < 2 ^ 31 by omega)] at hP
      replace hP : va_P (dC, dI) vwCl (rx_W rl ad (eC ad cy F (va_up M 42 (upd ((L_take F M i p0 i1).2) (12 * p0.toNatClampNeg + i1) (if 0 < (if ((M 44) (12 * i + i1)) < 9 then ((M 44) (12 * i + i1)) else 9) then (if ((M 44) (12 * i + i1)) < 9 then ((M 44) (12 * i + i1)) else 9) else 0))) Y)) H := ec_mp (ec_25 ad cy F (va_up M 42 ((L_take F M i p0 i1).2)) Y p0.toNatClampNeg i1 (show i1 < 12 by omega) (if 0 < (if ((M 44) (12 * i + i1)) < 9 then ((M 44) (12 * i + i1)) else 9) then (if ((M 44) (12 * i + i1)) < 9 then ((M 44) (12 * i + i1)) else 9) else 0)) hP
      replace hD : va_D A (rx_W rl ad (eC ad cy F (va_up M 42 (upd ((L_take F M i p0 i1).2) (12 * p0.toNatClampNeg + i1) (if 0 < (if ((M 44) (12 * i + i1)) < 9 then ((M 44) (12 * i + i1)) else 9) then (if ((M 44) (12 * i + i1)) < 9 then ((M 44) (12 * i + i1)) else 9) else 0))) Y)) := rx_D hD
      refine lv_iload_n hx hb dX2_take_46 rfl (lv_at hl 1 rfl) ?_
      refine lv_aload_n hx hb dX2_take_47 rfl (lv_at hl 2 rfl) ?_
      refine rg_get (D := (dC, dI)) (r := (2, 0)) (ci := 2) (v := .ref (ad (19, 0))) (C := RX2) (T := TX2) (N := 3) hx hb hts hin2 hown hK hP ((hrl _).mpr (vd_2 (by decide))) en_2 rfl 0 (by decide) (hts (.fieldLink RX2 11 "SocietyBook$Holdings" "rows" "[[I") (by decide +kernel)) (fun _ h9 => h9) rfl dX2_take_48 ?_
      refine lv_iload_n hx hb dX2_take_51 rfl (lv_at hl 3 rfl) ?_
      refine rg_ald2 (r := (19, 0)) (v := .ref (ad (25, p0.toNatClampNeg))) hx hb hK hP ((hrl _).mpr (vd_19 (by decide))) 10 en_19 rfl hh rfl dX2_take_52 ?_
      refine lv_iload hx hb dX2_take_53 (lv_at hl 0 rfl) ?_
      refine rg_iald (r := (25, p0.toNatClampNeg)) (v := (upd ((L_take F M i p0 i1).2) (12 * p0.toNatClampNeg + i1) (if 0 < (if ((M 44) (12 * i + i1)) < 9 then ((M 44) (12 * i + i1)) else 9) then (if ((M 44) (12 * i + i1)) < 9 then ((M 44) (12 * i + i1)) else 9) else 0)) (12 * p0.toNatClampNeg + i1)) hx hb hK hP ((hrl _).mpr (vd_25 (ib_cl hh).2)) 0 en_25 rfl (vp_in_nI (show i1 < 12 by omega) (by decide)) (by rw [nI_clamp (show i1 < 2 ^ 31 by omega)]; exact if_pos (show i1 < 12 by omega)) dX2_take_55 ?_
      refine lv_iadd hx hb dX2_take_56 ?_
      refine lv_istore_n (lv' := [(3, .int (((L_take F M i p0 i1).1) + ((upd ((L_take F M i p0 i1).2) (12 * p0.toNatClampNeg + i1) (if 0 < (if ((M 44) (12 * i + i1)) < 9 then ((M 44) (12 * i + i1)) else 9) then (if ((M 44) (12 * i + i1)) < 9 then ((M 44) (12 * i + i1)) else 9) else 0)) (12 * p0.toNatClampNeg + i1)))), (4, .int (nI i1)), (0, .ref (ad (2, 0))), (1, .int p0), (2, .ref (ad (7, i)))]) hx hb dX2_take_57 rfl hl (by decide) rfl (fun ls hl => ?_)
      refine lv_iinc (v := nI (i1 + 1)) (lv' := [(4, .int (nI (i1 + 1))), (3, .int (((L_take F M i p0 i1).1) + ((upd ((L_take F M i p0 i1).2) (12 * p0.toNatClampNeg + i1) (if 0 < (if ((M 44) (12 * i + i1)) < 9 then ((M 44) (12 * i + i1)) else 9) then (if ((M 44) (12 * i + i1)) < 9 then ((M 44) (12 * i + i1)) else 9) else 0)) (12 * p0.toNatClampNeg + i1)))), (0, .ref (ad (2, 0))), (1, .int p0), (2, .ref (ad (7, i)))]) hx hb dX2_take_58 hl (k := 1) rfl (nI_1 i1) (by decide) rfl (fun ls hl => ?_)
      refine lv_goto (tgt := 5) hx hb dX2_take_61 (by decide) ?_
      have e9 : L_take F M i p0 (i1 + 1) = (((L_take F M i p0 i1).1) + ((upd ((L_take F M i p0 i1).2) (12 * p0.toNatClampNeg + i1) (if 0 < (if ((M 44) (12 * i + i1)) < 9 then ((M 44) (12 * i + i1)) else 9) then (if ((M 44) (12 * i + i1)) < 9 then ((M 44) (12 * i + i1)) else 9) else 0)) (12 * p0.toNatClampNeg + i1)), upd ((L_take F M i p0 i1).2) (12 * p0.toNatClampNeg + i1) (if 0 < (if ((M 44) (12 * i + i1)) < 9 then ((M 44) (12 * i + i1)) else 9) then (if ((M 44) (12 * i + i1)) < 9 then ((M 44) (12 * i + i1)) else 9) else 0)) := by rw [L_take]; rw [if_neg c1]
      refine kk1 ls H locs (show lv_has ls 5 [(4, .int (nI (i1 + 1))), (3, .int ((L_take F M i p0 (i1 + 1)).1)), (0, .ref (ad (2, 0))), (1, .int p0), (2, .ref (ad (7, i)))] from ?_) (show va_P (dC, dI) vwCl (rx_W rl ad (eC ad cy F (va_up M 42 ((L_take F M i p0 (i1 + 1)).2)) Y)) H from ?_) (show va_D A (rx_W rl ad (eC ad cy F (va_up M 42 ((L_take F M i p0 (i1 + 1)).2)) Y)) from ?_) hS
      · rw [e9]; exact lv_sub hl [0, 1, 2, 3, 4] rfl
      · rw [e9]; exact hP
      · rw [e9]; exact hD
  · replace hl : lv_has ls 5 [(4, .int (nI 12)), (3, .int ((L_take F M i p0 12).1)), (0, .ref (ad (2, 0))), (1, .int p0), (2, .ref (ad (7, i)))] := hl
    replace hP : va_P (dC, dI) vwCl (rx_W rl ad (eC ad cy F (va_up M 42 ((L_take F M i p0 12).2)) Y)) H := hP
    replace hD : va_D A (rx_W rl ad (eC ad cy F (va_up M 42 ((L_take F M i p0 12).2)) Y)) := hD
    refine lv_iload hx hb dX2_take_5 (lv_at hl 0 rfl) ?_
    refine lv_bipush (v := 12) hx hb dX2_take_7 (by decide) ?_
    refine lv_icmp_ge (tgt := 64) hx hb dX2_take_9 (by decide) (fun _ => ?_) (fun c => absurd (lb_y (by decide)) c)
    refine lv_iload_n hx hb dX2_take_64 rfl (lv_at hl 1 rfl) ?_
    exact W.iret (v := (L_take F M i p0 12).1) hx hb hr (fun t ht hW => ⟨⟨(L_take F M i p0 12).1, Y, rfl, rfl, ⟨⟨by rw [ht]; exact hP, va_K.moved hW.alike hK, nst_w hW hN⟩, hD⟩⟩, hS.F ht⟩) hS.2.2 dX2_take_65
