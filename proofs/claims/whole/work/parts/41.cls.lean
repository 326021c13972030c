
theorem wh_3 (F : Nat → Int32) (M : Nat → Nat → Int32) (p0 z : Int64) (i : Nat) (hz : z = L_dig5 F M (12 * i)) : ∀ n, L_wh3 F M p0 i z n = L_dig5 F M (12 * i + n) := by
  intro n
  induction n with
  | zero => exact hz
  | succ n ih =>
    rw [L_wh3, ih]
    show _ = L_dig5 F M ((12 * i + n) + 1)
    rw [L_dig5]
theorem wh_2 (F : Nat → Int32) (M : Nat → Nat → Int32) : ∀ n, L_wh2 F M (L_dig4 F M (F 32).toNatClampNeg) n = L_dig5 F M (12 * n) := by
  intro n
  induction n with
  | zero => rfl
  | succ n ih =>
    rw [L_wh2, wh_3 F M _ _ n ih, Nat.mul_succ]
theorem mi_7 (F : Nat → Int32) (M : Nat → Nat → Int32) (j : Nat) (h : Int64) : ∀ n, L_mi F M j h n = L_dig7 F M j (((31) * h) + ((M 43 j).toInt64)) n := by
  intro n
  induction n with
  | zero => rfl
  | succ n ih => rw [L_mi, L_dig7, ih]
theorem mi_eq {F : Nat → Int32} {M : Nat → Nat → Int32} {j : Nat} {h : Int64} (hI : iv F M) (hj : j < 4) : (if (M 43 j) < 0 then ((31) * h) + ((-1 : Int32).toInt64) else L_mi F M j h (M 43 j).toNatClampNeg) = L_dig7 F M j (((31) * h) + ((M 43 j).toInt64)) (M 43 j).toNatClampNeg := by
  by_cases c : M 43 j < 0
  · rw [if_pos c]
    have h1 := ib_le.mp (iv_sz hI j hj).1
    have h2 := ib_lt.mp c
    have em : (-1 : Int32).toInt = -1 := by decide
    rw [em] at h1
    rw [ib_0] at h2
    have e : M 43 j = -1 := ib_eq.mpr (by rw [em]; omega)
    rw [e]
    rfl
  · rw [if_neg c, mi_7]

set_option maxHeartbeats 4000000 in
set_option maxRecDepth 100000 in
theorem c_X10_digest (l : Launch) (dC : Nat → ClassId) (dI : Nat → Nat → Nat) (rl : List (Nat × Nat)) (ad : Nat × Nat → Nat) (cy : Nat → ClassId) (F : Nat → Int32) (M Y : Nat → Nat → Int32)  (hrl : ∀ r, r ∈ rl ↔ vd F r) (hI : iv F M) (hJ : jv F M) : Met l yX10_digest wsX10_digest ({ frames := 4, cells := 0, slots := 0, locals := 92 } : Room) (va_Pc [.ref (ad (9, 0))] (pC dC dI rl ad cy (eC ad cy F M Y))) (vp_Sl (fun r => r = (s_X11_digest F M))) 0 0 (fun _ => False) := by
  refine Met.ofW (cc := cX10_digest) (maxL := 4) (ret := (some .long)) (by decide) rfl ?_
  intro p e s m args below meth c s₁ B hml hv
  obtain ⟨rfl, hP, hK, hN⟩ := hv
  have hx := B.exec
  have hb := B.bytes
  have hr := B.returns
  have hts := atoms_spec (ws := wsX10_digest) B.pre
  have hown : s.vm.findClass RX10 = some m.cls := findClass_of_methodNamed B.named
  have hlocks := B.notSynchronized
  have hin1 : ∀ w ∈ wsX10, w ∈ wsX10_digest := by decide +kernel
  have hin10 : ∀ w ∈ wsX100, w ∈ wsX10_digest := by decide +kernel
  have hl := lv_entry ([.ref (ad (9, 0))]) (n := 4) (Nat.le_of_ble_eq_true rfl)
  rw [lg_entry_eq]
  generalize (lg_sl ([.ref (ad (9, 0))]) ++ List.replicate (4 - (lg_sl ([.ref (ad (9, 0))])).length) Slot.unset).toArray = ls at hl ⊢
  have hl : lv_has ls 4 [(0, .ref (ad (9, 0)))] := hl
  have hn7 : (F 7).toNatClampNeg ≤ 24 := lb_le (iv_7 hI) (by decide)
  have hn32 : (F 32).toNatClampNeg ≤ 20 := lb_le (iv_32 hI) (by decide)
  refine lv_ldc2 (v := (17)) hx hb hown (hts (.constantLong RX10 274 (17)) (by decide +kernel)) dX10_digest_0 ?_
  refine lv_lstore_n (lv' := [(1, .long (17)), (0, .ref (ad (9, 0)))]) hx hb dX10_digest_3 rfl hl (by decide) rfl (fun ls hl => ?_)
  refine lv_iconst (v := 0) hx hb dX10_digest_4 (by decide) ?_
  refine lv_istore_n (lv' := [(3, .int 0), (1, .long (17)), (0, .ref (ad (9, 0)))]) hx hb dX10_digest_5 rfl hl (by decide) rfl (fun ls hl => ?_)
  refine lp_for (N := 8) (lv := fun i1 => [(3, .int (nI i1)), (1, .long (L_dig1 F M i1)), (0, .ref (ad (9, 0)))]) (lv_sub hl [0, 1, 2] rfl) (fun i1 hi1 ls hl kk1 => ?_) (fun ls hl => ?_)
  · replace hl : lv_has ls 4 [(3, .int (nI i1)), (1, .long (L_dig1 F M i1)), (0, .ref (ad (9, 0)))] := hl
    refine lv_iload_n hx hb dX10_digest_6 rfl (lv_at hl 0 rfl) ?_
    refine lv_bipush (v := 8) hx hb dX10_digest_7 (by decide) ?_
    refine lv_icmp_ge (tgt := 28) hx hb dX10_digest_9 (by decide) (fun c => absurd c (lb_n (by decide) hi1)) (fun _ => ?_)
    refine lv_lload_n hx hb dX10_digest_12 rfl (lv_at hl 1 rfl) ?_
    refine lv_aload_n hx hb dX10_digest_13 rfl (lv_at hl 2 rfl) ?_
    refine lv_iload_n hx hb dX10_digest_14 rfl (lv_at hl 0 rfl) ?_
    refine vp_callSi (W.runV (As := [.int (nI i1)]) (rest := [.long (L_dig1 F M i1)]) ⟨hx, hb, hml, hown, hts⟩ (c_X10_count l dC dI rl ad cy F M Y  (nI i1) hrl hI hJ ) (cwV 1 hts gX10_digest_X10_count rfl rfl rfl (by decide +kernel) ⟨Nat.le_of_ble_eq_true rfl, Nat.le_of_ble_eq_true rfl⟩) ⟨pc_blind, rg_recv hK hP ((hrl _).mpr (vd_9 (by decide))) (ci := 9) rfl en_9, fun U hU hW => ⟨rfl, by rw [hU]; exact hP, va_K.moved hW.alike hK, nst_w hW hN⟩⟩ rfl rfl hl.1 rfl (lv_room (Nat.le_of_ble_eq_true rfl)) dX10_digest_15 ⟨Nat.zero_le _, Nat.zero_le _⟩) (fun r hr9 => ?_)
    subst hr9
    refine vp_callSl (W.runS (As := [.long (L_dig1 F M i1), .int (s_X11_count F M (nI i1))]) (rest := []) ⟨hx, hb, hml, hown, hts⟩ (c_X10_mixed l (L_dig1 F M i1) (s_X11_count F M (nI i1))) (va_cwS 2 hts gX10_digest_X10_mixed rfl rfl rfl (by decide +kernel) ⟨Nat.le_of_ble_eq_true rfl, Nat.le_of_ble_eq_true rfl⟩) ⟨fun _ _ _ _ q => q, fun U hU hW => ⟨rfl, trivial⟩⟩ rfl rfl hl.1 rfl (lv_room (Nat.le_of_ble_eq_true rfl)) dX10_digest_18 ⟨Nat.zero_le _, Nat.zero_le _⟩) (fun r hr9 => ?_)
    subst hr9
    refine lv_lstore_n (lv' := [(1, .long (((31) * (L_dig1 F M i1)) + ((s_X11_count F M (nI i1)).toInt64))), (3, .int (nI i1)), (0, .ref (ad (9, 0)))]) hx hb dX10_digest_21 rfl hl (by decide) rfl (fun ls hl => ?_)
    refine lv_iinc (v := nI (i1 + 1)) (lv' := [(3, .int (nI (i1 + 1))), (1, .long (((31) * (L_dig1 F M i1)) + ((s_X11_count F M (nI i1)).toInt64))), (0, .ref (ad (9, 0)))]) hx hb dX10_digest_22 hl (k := 1) rfl (nI_1 i1) (by decide) rfl (fun ls hl => ?_)
    refine lv_goto (tgt := 6) hx hb dX10_digest_25 (by decide) ?_
    have e9 : L_dig1 F M (i1 + 1) = ((31) * (L_dig1 F M i1)) + ((s_X11_count F M (nI i1)).toInt64) := by rw [L_dig1]
    refine kk1 ls (show lv_has ls 4 [(3, .int (nI (i1 + 1))), (1, .long (L_dig1 F M (i1 + 1))), (0, .ref (ad (9, 0)))] from ?_)
    rw [e9]; exact lv_sub hl [0, 1, 2] rfl
  · replace hl : lv_has ls 4 [(3, .int (nI 8)), (1, .long (L_dig1 F M 8)), (0, .ref (ad (9, 0)))] := hl
    refine lv_iload_n hx hb dX10_digest_6 rfl (lv_at hl 0 rfl) ?_
    refine lv_bipush (v := 8) hx hb dX10_digest_7 (by decide) ?_
    refine lv_icmp_ge (tgt := 28) hx hb dX10_digest_9 (by decide) (fun _ => ?_) (fun c => absurd (lb_y (by decide)) c)
    refine lv_aload_n hx hb dX10_digest_28 rfl (lv_at hl 2 rfl) ?_
    refine lv_lload_n hx hb dX10_digest_29 rfl (lv_at hl 1 rfl) ?_
    refine vp_callSl (W.runV (As := [.long (L_dig1 F M 8)]) (rest := []) ⟨hx, hb, hml, hown, hts⟩ (c_X10_withPapers l dC dI rl ad cy F M Y   hrl hI hJ ) (cwV 1 hts gX10_digest_X10_withPapers rfl rfl rfl (by decide +kernel) ⟨Nat.le_of_ble_eq_true rfl, Nat.le_of_ble_eq_true rfl⟩) ⟨pc_blind, rg_recv hK hP ((hrl _).mpr (vd_9 (by decide))) (ci := 9) rfl en_9, fun U hU hW => ⟨rfl, by rw [hU]; exact hP, va_K.moved hW.alike hK, nst_w hW hN⟩⟩ rfl rfl hl.1 rfl (lv_room (Nat.le_of_ble_eq_true rfl)) dX10_digest_30 ⟨Nat.zero_le _, Nat.zero_le _⟩) (fun r hr9 => ?_)
    subst hr9
    refine lv_lstore_n (lv' := [(1, .long (L_dig2 F M (F 7).toNatClampNeg)), (3, .int (nI 8)), (0, .ref (ad (9, 0)))]) hx hb dX10_digest_33 rfl hl (by decide) rfl (fun ls hl => ?_)
    refine lv_iconst (v := 0) hx hb dX10_digest_34 (by decide) ?_
    refine lv_istore_n (lv' := [(3, .int 0), (1, .long (L_dig2 F M (F 7).toNatClampNeg)), (0, .ref (ad (9, 0)))]) hx hb dX10_digest_35 rfl hl (by decide) rfl (fun ls hl => ?_)
    refine lp_for (N := (F 32).toNatClampNeg) (lv := fun i1 => [(3, .int (nI i1)), (1, .long (L_dig4 F M i1)), (0, .ref (ad (9, 0)))]) (lv_sub hl [0, 1, 2] rfl) (fun i1 hi1 ls hl kk1 => ?_) (fun ls hl => ?_)
    · replace hl : lv_has ls 4 [(3, .int (nI i1)), (1, .long (L_dig4 F M i1)), (0, .ref (ad (9, 0)))] := hl
      refine lv_iload_n hx hb dX10_digest_36 rfl (lv_at hl 0 rfl) ?_
      refine lv_aload_n hx hb dX10_digest_37 rfl (lv_at hl 2 rfl) ?_
      refine rg_get (D := (dC, dI)) (r := (9, 0)) (ci := 9) (v := .int (F 32)) (C := RX10) (T := TX10) (N := 19) hx hb hts hin10 hown hK hP ((hrl _).mpr (vd_9 (by decide))) en_9 rfl 11 (by decide) (hts (.fieldLink RX10 185 "SocietyBook" "candidateCount" "I") (by decide +kernel)) (fun _ h9 => h9) rfl dX10_digest_38 ?_
      refine lv_icmp_ge (tgt := 80) hx hb dX10_digest_41 (by decide) (fun c => absurd c (lb_nc hi1)) (fun _ => ?_)
      refine lv_lload_n hx hb dX10_digest_44 rfl (lv_at hl 1 rfl) ?_
      refine lv_aload_n hx hb dX10_digest_45 rfl (lv_at hl 2 rfl) ?_
      refine rg_get (D := (dC, dI)) (r := (9, 0)) (ci := 9) (v := .ref (ad (14, 0))) (C := RX10) (T := TX10) (N := 19) hx hb hts hin10 hown hK hP ((hrl _).mpr (vd_9 (by decide))) en_9 rfl 10 (by decide) (hts (.fieldLink RX10 35 "SocietyBook" "candidates" "[LSocietyBook$Candidate;") (by decide +kernel)) (fun _ h9 => h9) rfl dX10_digest_46 ?_
      refine lv_iload_n hx hb dX10_digest_49 rfl (lv_at hl 0 rfl) ?_
      refine rg_aldq (r := (14, 0)) (v := .ref (ad (1, i1))) hx hb hK hP ((hrl _).mpr (vd_14 (by decide))) 6 en_14 rfl (vp_in_nI (show i1 < 20 by omega) (by decide)) (by rw [nI_clamp (show i1 < 2 ^ 31 by omega)]; rw [if_pos (by omega)]; rfl) dX10_digest_50 ?_
      refine rg_get (D := (dC, dI)) (r := (1, i1)) (ci := 1) (v := .int (M 35 i1)) (C := RX1) (T := TX1) (N := 3) hx hb hts hin1 hown hK hP ((hrl _).mpr (vd_1 (by omega))) en_1 rfl 2 (by decide) (hts (.fieldLink RX10 195 "SocietyBook$Candidate" "missing" "Z") (by decide +kernel)) (fun _ h9 => h9) rfl dX10_digest_51 ?_
      refine lv_if_eq (tgt := 61) hx hb dX10_digest_54 (by decide) (fun c1 => ?_) (fun c1 => ?_)
      · refine lv_aload_n hx hb dX10_digest_61 rfl (lv_at hl 2 rfl) ?_
        refine rg_get (D := (dC, dI)) (r := (9, 0)) (ci := 9) (v := .ref (ad (14, 0))) (C := RX10) (T := TX10) (N := 19) hx hb hts hin10 hown hK hP ((hrl _).mpr (vd_9 (by decide))) en_9 rfl 10 (by decide) (hts (.fieldLink RX10 35 "SocietyBook" "candidates" "[LSocietyBook$Candidate;") (by decide +kernel)) (fun _ h9 => h9) rfl dX10_digest_62 ?_
        refine lv_iload_n hx hb dX10_digest_65 rfl (lv_at hl 0 rfl) ?_
        refine rg_aldq (r := (14, 0)) (v := .ref (ad (1, i1))) hx hb hK hP ((hrl _).mpr (vd_14 (by decide))) 6 en_14 rfl (vp_in_nI (show i1 < 20 by omega) (by decide)) (by rw [nI_clamp (show i1 < 2 ^ 31 by omega)]; rw [if_pos (by omega)]; rfl) dX10_digest_66 ?_
        refine rg_get (D := (dC, dI)) (r := (1, i1)) (ci := 1) (v := .int (M 34 i1)) (C := RX1) (T := TX1) (N := 3) hx hb hts hin1 hown hK hP ((hrl _).mpr (vd_1 (by omega))) en_1 rfl 0 (by decide) (hts (.fieldLink RX10 199 "SocietyBook$Candidate" "proposers" "I") (by decide +kernel)) (fun _ h9 => h9) rfl dX10_digest_67 ?_
        refine vp_callSl (W.runS (As := [.long (L_dig4 F M i1), .int (M 34 i1)]) (rest := []) ⟨hx, hb, hml, hown, hts⟩ (c_X10_mixed l (L_dig4 F M i1) (M 34 i1)) (va_cwS 2 hts gX10_digest_X10_mixed rfl rfl rfl (by decide +kernel) ⟨Nat.le_of_ble_eq_true rfl, Nat.le_of_ble_eq_true rfl⟩) ⟨fun _ _ _ _ q => q, fun U hU hW => ⟨rfl, trivial⟩⟩ rfl rfl hl.1 rfl (lv_room (Nat.le_of_ble_eq_true rfl)) dX10_digest_70 ⟨Nat.zero_le _, Nat.zero_le _⟩) (fun r hr9 => ?_)
        subst hr9
        refine lv_lstore_n (lv' := [(1, .long (((31) * (L_dig4 F M i1)) + ((M 34 i1).toInt64))), (3, .int (nI i1)), (0, .ref (ad (9, 0)))]) hx hb dX10_digest_73 rfl hl (by decide) rfl (fun ls hl => ?_)
        refine lv_iinc (v := nI (i1 + 1)) (lv' := [(3, .int (nI (i1 + 1))), (1, .long (((31) * (L_dig4 F M i1)) + ((M 34 i1).toInt64))), (0, .ref (ad (9, 0)))]) hx hb dX10_digest_74 hl (k := 1) rfl (nI_1 i1) (by decide) rfl (fun ls hl => ?_)
        refine lv_goto (tgt := 36) hx hb dX10_digest_77 (by decide) ?_
        have e9 : L_dig4 F M (i1 + 1) = ((31) * (L_dig4 F M i1)) + ((M 34 i1).toInt64) := by rw [L_dig4]; rw [if_pos c1]
        refine kk1 ls (show lv_has ls 4 [(3, .int (nI (i1 + 1))), (1, .long (L_dig4 F M (i1 + 1))), (0, .ref (ad (9, 0)))] from ?_)
        rw [e9]; exact lv_sub hl [0, 1, 2] rfl
      · refine lv_iconst (v := (-1)) hx hb dX10_digest_57 (by decide) ?_
        refine lv_goto (tgt := 70) hx hb dX10_digest_58 (by decide) ?_
        refine vp_callSl (W.runS (As := [.long (L_dig4 F M i1), .int (-1)]) (rest := []) ⟨hx, hb, hml, hown, hts⟩ (c_X10_mixed l (L_dig4 F M i1) (-1)) (va_cwS 2 hts gX10_digest_X10_mixed rfl rfl rfl (by decide +kernel) ⟨Nat.le_of_ble_eq_true rfl, Nat.le_of_ble_eq_true rfl⟩) ⟨fun _ _ _ _ q => q, fun U hU hW => ⟨rfl, trivial⟩⟩ rfl rfl hl.1 rfl (lv_room (Nat.le_of_ble_eq_true rfl)) dX10_digest_70 ⟨Nat.zero_le _, Nat.zero_le _⟩) (fun r hr9 => ?_)
        subst hr9
        refine lv_lstore_n (lv' := [(1, .long (((31) * (L_dig4 F M i1)) + ((-1 : Int32).toInt64))), (3, .int (nI i1)), (0, .ref (ad (9, 0)))]) hx hb dX10_digest_73 rfl hl (by decide) rfl (fun ls hl => ?_)
        refine lv_iinc (v := nI (i1 + 1)) (lv' := [(3, .int (nI (i1 + 1))), (1, .long (((31) * (L_dig4 F M i1)) + ((-1 : Int32).toInt64))), (0, .ref (ad (9, 0)))]) hx hb dX10_digest_74 hl (k := 1) rfl (nI_1 i1) (by decide) rfl (fun ls hl => ?_)
        refine lv_goto (tgt := 36) hx hb dX10_digest_77 (by decide) ?_
        have e9 : L_dig4 F M (i1 + 1) = ((31) * (L_dig4 F M i1)) + ((-1 : Int32).toInt64) := by rw [L_dig4]; rw [if_neg c1]
        refine kk1 ls (show lv_has ls 4 [(3, .int (nI (i1 + 1))), (1, .long (L_dig4 F M (i1 + 1))), (0, .ref (ad (9, 0)))] from ?_)
        rw [e9]; exact lv_sub hl [0, 1, 2] rfl
    · replace hl : lv_has ls 4 [(3, .int (nI (F 32).toNatClampNeg)), (1, .long (L_dig4 F M (F 32).toNatClampNeg)), (0, .ref (ad (9, 0)))] := hl
      refine lv_iload_n hx hb dX10_digest_36 rfl (lv_at hl 0 rfl) ?_
      refine lv_aload_n hx hb dX10_digest_37 rfl (lv_at hl 2 rfl) ?_
      refine rg_get (D := (dC, dI)) (r := (9, 0)) (ci := 9) (v := .int (F 32)) (C := RX10) (T := TX10) (N := 19) hx hb hts hin10 hown hK hP ((hrl _).mpr (vd_9 (by decide))) en_9 rfl 11 (by decide) (hts (.fieldLink RX10 185 "SocietyBook" "candidateCount" "I") (by decide +kernel)) (fun _ h9 => h9) rfl dX10_digest_38 ?_
      refine lv_icmp_ge (tgt := 80) hx hb dX10_digest_41 (by decide) (fun _ => ?_) (fun c => absurd lb_yc c)
      refine lv_aload_n hx hb dX10_digest_80 rfl (lv_at hl 2 rfl) ?_
      refine lv_lload_n hx hb dX10_digest_81 rfl (lv_at hl 1 rfl) ?_
      refine vp_callSl (W.runV (As := [.long (L_dig4 F M (F 32).toNatClampNeg)]) (rest := []) ⟨hx, hb, hml, hown, hts⟩ (c_X10_withHoldings l dC dI rl ad cy F M Y  (L_dig4 F M (F 32).toNatClampNeg) hrl hI hJ ) (cwV 1 hts gX10_digest_X10_withHoldings rfl rfl rfl (by decide +kernel) ⟨Nat.le_of_ble_eq_true rfl, Nat.le_of_ble_eq_true rfl⟩) ⟨pc_blind, rg_recv hK hP ((hrl _).mpr (vd_9 (by decide))) (ci := 9) rfl en_9, fun U hU hW => ⟨rfl, by rw [hU]; exact hP, va_K.moved hW.alike hK, nst_w hW hN⟩⟩ rfl rfl hl.1 rfl (lv_room (Nat.le_of_ble_eq_true rfl)) dX10_digest_82 ⟨Nat.zero_le _, Nat.zero_le _⟩) (fun r hr9 => ?_)
      subst hr9
      rw [wh_2]
      refine lv_lstore_n (lv' := [(1, .long (L_dig5 F M (12 * 6))), (3, .int (nI (F 32).toNatClampNeg)), (0, .ref (ad (9, 0)))]) hx hb dX10_digest_85 rfl hl (by decide) rfl (fun ls hl => ?_)
      refine lv_iconst (v := 0) hx hb dX10_digest_86 (by decide) ?_
      refine lv_istore_n (lv' := [(3, .int 0), (1, .long (L_dig5 F M (12 * 6))), (0, .ref (ad (9, 0)))]) hx hb dX10_digest_87 rfl hl (by decide) rfl (fun ls hl => ?_)
      refine lp_for (N := 4) (lv := fun i1 => [(3, .int (nI i1)), (1, .long (L_dig6 F M i1)), (0, .ref (ad (9, 0)))]) (lv_sub hl [0, 1, 2] rfl) (fun i1 hi1 ls hl kk1 => ?_) (fun ls hl => ?_)
      · replace hl : lv_has ls 4 [(3, .int (nI i1)), (1, .long (L_dig6 F M i1)), (0, .ref (ad (9, 0)))] := hl
        refine lv_iload_n hx hb dX10_digest_88 rfl (lv_at hl 0 rfl) ?_
        refine lv_iconst (v := 4) hx hb dX10_digest_89 (by decide) ?_
        refine lv_icmp_ge (tgt := 110) hx hb dX10_digest_90 (by decide) (fun c => absurd c (lb_n (by decide) hi1)) (fun _ => ?_)
        refine lv_aload_n hx hb dX10_digest_93 rfl (lv_at hl 2 rfl) ?_
        refine rg_get (D := (dC, dI)) (r := (9, 0)) (ci := 9) (v := .ref (ad (17, 0))) (C := RX10) (T := TX10) (N := 19) hx hb hts hin10 hown hK hP ((hrl _).mpr (vd_9 (by decide))) en_9 rfl 15 (by decide) (hts (.fieldLink RX10 54 "SocietyBook" "sheets" "[LSocietyBook$Sheet;") (by decide +kernel)) (fun _ h9 => h9) rfl dX10_digest_94 ?_
        refine lv_iload_n hx hb dX10_digest_97 rfl (lv_at hl 0 rfl) ?_
        refine rg_aldq (r := (17, 0)) (v := .ref (ad (7, i1))) hx hb hK hP ((hrl _).mpr (vd_17 (by decide))) 9 en_17 rfl (vp_in_nI (show i1 < 4 by omega) (by decide)) (by rw [nI_clamp (show i1 < 2 ^ 31 by omega)]; rfl) dX10_digest_98 ?_
        refine lv_lload_n hx hb dX10_digest_99 rfl (lv_at hl 1 rfl) ?_
        refine vp_callSl (W.runV (As := [.long (L_dig6 F M i1)]) (rest := []) ⟨hx, hb, hml, hown, hts⟩ (c_X8_mixedInto l dC dI rl ad cy F M Y i1 (L_dig6 F M i1) hrl hI hJ (by omega)) (cwV 1 hts gX10_digest_X8_mixedInto rfl rfl rfl (by decide +kernel) ⟨Nat.le_of_ble_eq_true rfl, Nat.le_of_ble_eq_true rfl⟩) ⟨pc_blind, rg_recv hK hP ((hrl _).mpr (vd_7 (by omega))) (ci := 7) rfl en_7, fun U hU hW => ⟨rfl, by rw [hU]; exact hP, va_K.moved hW.alike hK, nst_w hW hN⟩⟩ rfl rfl hl.1 rfl (lv_room (Nat.le_of_ble_eq_true rfl)) dX10_digest_100 ⟨Nat.zero_le _, Nat.zero_le _⟩) (fun r hr9 => ?_)
        subst hr9
        rw [mi_eq hI hi1]
        refine lv_lstore_n (lv' := [(1, .long (L_dig7 F M i1 (((31) * (L_dig6 F M i1)) + ((M 43 i1).toInt64)) (M 43 i1).toNatClampNeg)), (3, .int (nI i1)), (0, .ref (ad (9, 0)))]) hx hb dX10_digest_103 rfl hl (by decide) rfl (fun ls hl => ?_)
        refine lv_iinc (v := nI (i1 + 1)) (lv' := [(3, .int (nI (i1 + 1))), (1, .long (L_dig7 F M i1 (((31) * (L_dig6 F M i1)) + ((M 43 i1).toInt64)) (M 43 i1).toNatClampNeg)), (0, .ref (ad (9, 0)))]) hx hb dX10_digest_104 hl (k := 1) rfl (nI_1 i1) (by decide) rfl (fun ls hl => ?_)
        refine lv_goto (tgt := 88) hx hb dX10_digest_107 (by decide) ?_
        have e9 : L_dig6 F M (i1 + 1) = L_dig7 F M i1 (((31) * (L_dig6 F M i1)) + ((M 43 i1).toInt64)) (M 43 i1).toNatClampNeg := by rw [L_dig6]
        refine kk1 ls (show lv_has ls 4 [(3, .int (nI (i1 + 1))), (1, .long (L_dig6 F M (i1 + 1))), (0, .ref (ad (9, 0)))] from ?_)
        rw [e9]; exact lv_sub hl [0, 1, 2] rfl
      · replace hl : lv_has ls 4 [(3, .int (nI 4)), (1, .long (L_dig6 F M 4)), (0, .ref (ad (9, 0)))] := hl
        refine lv_iload_n hx hb dX10_digest_88 rfl (lv_at hl 0 rfl) ?_
        refine lv_iconst (v := 4) hx hb dX10_digest_89 (by decide) ?_
        refine lv_icmp_ge (tgt := 110) hx hb dX10_digest_90 (by decide) (fun _ => ?_) (fun c => absurd (lb_y (by decide)) c)
        refine lv_lload_n hx hb dX10_digest_110 rfl (lv_at hl 1 rfl) ?_
        exact W.lret (v := (L_dig6 F M 4)) hx hb hr (fun t ht hW => ⟨(L_dig6 F M 4), rfl, by unfold s_X11_digest; rfl, ht⟩) (fun _ h => by cases h) dX10_digest_111
