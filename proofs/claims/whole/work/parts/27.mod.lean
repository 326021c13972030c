def L_dig1 (F : Nat → Int32) (M : Nat → Nat → Int32)  : Nat → Int64
  | 0 => (17)
  | i1 + 1 =>
    ((31) * (L_dig1 F M i1)) + ((s_X11_count F M (nI i1)).toInt64)
def L_dig3 (F : Nat → Int32) (M : Nat → Nat → Int32)  (i1 : Nat) (z0 : Int64) : Nat → Int64
  | 0 => z0
  | i2 + 1 =>
    ((31) * (L_dig3 F M i1 z0 i2)) + ((s_X11_toldOf F M (nI i1) (nI i2)).toInt64)
def L_dig2 (F : Nat → Int32) (M : Nat → Nat → Int32)  : Nat → Int64
  | 0 => (L_dig1 F M 8)
  | i1 + 1 =>
    (L_dig3 F M i1 (L_dig2 F M i1) 7)
def L_dig4 (F : Nat → Int32) (M : Nat → Nat → Int32)  : Nat → Int64
  | 0 => (L_dig2 F M (F 7).toNatClampNeg)
  | i1 + 1 =>
    if ((M 35) i1) = 0 then ((31) * (L_dig4 F M i1)) + (((M 34) i1).toInt64) else
    ((31) * (L_dig4 F M i1)) + ((-1 : Int32).toInt64)
def L_dig5 (F : Nat → Int32) (M : Nat → Nat → Int32)  : Nat → Int64
  | 0 => (L_dig4 F M (F 32).toNatClampNeg)
  | i1 + 1 =>
    ((31) * (L_dig5 F M i1)) + (((M 42) i1).toInt64)
def L_dig7 (F : Nat → Int32) (M : Nat → Nat → Int32)  (i1 : Nat) (z0 : Int64) : Nat → Int64
  | 0 => z0
  | i2 + 1 =>
    ((31) * (L_dig7 F M i1 z0 i2)) + (((M 44) ((12 * (i1)) + (i2))).toInt64)
def L_dig6 (F : Nat → Int32) (M : Nat → Nat → Int32)  : Nat → Int64
  | 0 => (L_dig5 F M 72)
  | i1 + 1 =>
    (L_dig7 F M i1 (((31) * (L_dig6 F M i1)) + (((M 43) i1).toInt64)) ((M 43) i1).toNatClampNeg)
def s_X11_digest (F : Nat → Int32) (M : Nat → Nat → Int32)  : Int64 :=
  (L_dig6 F M 4)
set_option maxHeartbeats 4000000 in
set_option maxRecDepth 100000 in
theorem c_X11_digest (l : Launch) (dC : Nat → ClassId) (dI : Nat → Nat → Nat) (h : Nat) (a : Nat → Nat) (cI cB cZ : ClassId) (F : Nat → Int32) (M : Nat → Nat → Int32)  (hI : iv F M) : Met l yX11_digest wsX11_digest ({ frames := 2, cells := 0, slots := 0, locals := 47 } : Room) (va_Pc [.ref h] (pM dC dI h a cI cB cZ F M)) (vp_Sl (fun r => r = s_X11_digest F M)) 0 0 (fun _ => False) := by
  refine Met.ofW (cc := cX11_digest) (maxL := 5) (ret := (some .long)) (by decide) rfl ?_
  intro p e s m args below meth c s₁ B hml hv
  obtain ⟨rfl, hP, hK⟩ := hv
  have hx := B.exec
  have hb := B.bytes
  have hr := B.returns
  have hts := atoms_spec (ws := wsX11_digest) B.pre
  have hown : s.vm.findClass RX11 = some m.cls := findClass_of_methodNamed B.named
  have hlocks := B.notSynchronized
  have hin : ∀ w ∈ wsX110, w ∈ wsX11_digest := by decide +kernel
  have hl := lv_entry ([.ref h]) (n := 5) (Nat.le_of_ble_eq_true rfl)
  rw [lg_entry_eq]
  generalize (lg_sl ([.ref h]) ++ List.replicate (5 - (lg_sl ([.ref h])).length) Slot.unset).toArray = ls at hl ⊢
  have hl : lv_has ls 5 [(0, .ref h)] := hl
  have hn7 : (F 7).toNatClampNeg ≤ 24 := lb_le (iv_7 hI) (by decide)
  have hn32 : (F 32).toNatClampNeg ≤ 20 := lb_le (iv_32 hI) (by decide)
  refine lv_ldc2 (v := (17)) hx hb hown (hts (.constantLong RX11 240 (17)) (by decide +kernel)) dX11_digest_0 ?_
  refine lv_lstore_n (lv' := [(1, .long (17)), (0, .ref h)]) hx hb dX11_digest_3 rfl hl (by decide) rfl (fun ls hl => ?_)
  refine lv_iconst (v := 0) hx hb dX11_digest_4 (by decide) ?_
  refine lv_istore_n (lv' := [(3, .int 0), (1, .long (17)), (0, .ref h)]) hx hb dX11_digest_5 rfl hl (by decide) rfl (fun ls hl => ?_)
  refine lp_for (N := 8) (lv := fun i1 => [(3, .int (nI i1)), (1, .long (L_dig1 F M i1)), (0, .ref h)]) (lv_sub hl [0, 1, 2] rfl) (fun i1 hi1 ls hl kk1 => ?_) (fun ls hl => ?_)
  · replace hl : lv_has ls 5 [(3, .int (nI i1)), (1, .long (L_dig1 F M i1)), (0, .ref h)] := hl
    refine lv_iload_n hx hb dX11_digest_6 rfl (lv_at hl 0 rfl) ?_
    refine lv_bipush (v := 8) hx hb dX11_digest_7 (by decide) ?_
    refine lv_icmp_ge (tgt := 31) hx hb dX11_digest_9 (by decide) (fun c => absurd c (lb_n (by decide) hi1)) (fun _ => ?_)
    refine lv_ldc2 (v := (31)) hx hb hown (hts (.constantLong RX11 242 (31)) (by decide +kernel)) dX11_digest_12 ?_
    refine lv_lload_n hx hb dX11_digest_15 rfl (lv_at hl 1 rfl) ?_
    refine lv_lmul hx hb dX11_digest_16 ?_
    refine lv_aload_n hx hb dX11_digest_17 rfl (lv_at hl 2 rfl) ?_
    refine lv_iload_n hx hb dX11_digest_18 rfl (lv_at hl 0 rfl) ?_
    refine vp_callSi (W.runV (As := [.int (nI i1)]) (rest := [.long ((31) * (L_dig1 F M i1))]) ⟨hx, hb, hml, hown, hts⟩ (c_X11_count l dC dI h a cI cB cZ F M (nI i1)) (cwV 1 hts gX11_digest_X11_count rfl rfl rfl (by decide +kernel) ⟨Nat.le_of_ble_eq_true rfl, Nat.le_of_ble_eq_true rfl⟩) ⟨pm_blind, va_recv hK hP (ci := 10) (q0 := 0) rfl rfl, fun U hU hW => ⟨rfl, by rw [hU]; exact hP, va_K.moved hW.alike hK⟩⟩ rfl rfl hl.1 rfl (lv_room (Nat.le_of_ble_eq_true rfl)) dX11_digest_19 ⟨Nat.zero_le _, Nat.zero_le _⟩) (fun r hr9 => ?_)
    subst hr9
    refine lv_i2l hx hb dX11_digest_22 (v := (s_X11_count F M (nI i1)).toInt64) rfl ?_
    refine lv_ladd hx hb dX11_digest_23 ?_
    refine lv_lstore_n (lv' := [(1, .long (((31) * (L_dig1 F M i1)) + ((s_X11_count F M (nI i1)).toInt64))), (3, .int (nI i1)), (0, .ref h)]) hx hb dX11_digest_24 rfl hl (by decide) rfl (fun ls hl => ?_)
    refine lv_iinc (v := nI (i1 + 1)) (lv' := [(3, .int (nI (i1 + 1))), (1, .long (((31) * (L_dig1 F M i1)) + ((s_X11_count F M (nI i1)).toInt64))), (0, .ref h)]) hx hb dX11_digest_25 hl (k := 1) rfl (nI_1 i1) (by decide) rfl (fun ls hl => ?_)
    refine lv_goto (tgt := 6) hx hb dX11_digest_28 (by decide) ?_
    have e9 : L_dig1 F M (i1 + 1) = ((31) * (L_dig1 F M i1)) + ((s_X11_count F M (nI i1)).toInt64) := by rw [L_dig1]
    refine kk1 ls (show lv_has ls 5 [(3, .int (nI (i1 + 1))), (1, .long (L_dig1 F M (i1 + 1))), (0, .ref h)] from ?_)
    rw [e9]; exact lv_sub hl [0, 1, 2] rfl
  · replace hl : lv_has ls 5 [(3, .int (nI 8)), (1, .long (L_dig1 F M 8)), (0, .ref h)] := hl
    refine lv_iload_n hx hb dX11_digest_6 rfl (lv_at hl 0 rfl) ?_
    refine lv_bipush (v := 8) hx hb dX11_digest_7 (by decide) ?_
    refine lv_icmp_ge (tgt := 31) hx hb dX11_digest_9 (by decide) (fun _ => ?_) (fun c => absurd (lb_y (by decide)) c)
    refine lv_iconst (v := 0) hx hb dX11_digest_31 (by decide) ?_
    refine lv_istore_n (lv' := [(3, .int 0), (1, .long (L_dig1 F M 8)), (0, .ref h)]) hx hb dX11_digest_32 rfl hl (by decide) rfl (fun ls hl => ?_)
    refine lp_for (N := (F 7).toNatClampNeg) (lv := fun i1 => [(3, .int (nI i1)), (1, .long (L_dig2 F M i1)), (0, .ref h)]) (lv_sub hl [0, 1, 2] rfl) (fun i1 hi1 ls hl kk1 => ?_) (fun ls hl => ?_)
    · replace hl : lv_has ls 5 [(3, .int (nI i1)), (1, .long (L_dig2 F M i1)), (0, .ref h)] := hl
      refine lv_iload_n hx hb dX11_digest_33 rfl (lv_at hl 0 rfl) ?_
      refine lv_aload_n hx hb dX11_digest_34 rfl (lv_at hl 2 rfl) ?_
      refine va_get (D := (dC, dI)) (ci := 10) (v := .int (F 7)) (C := RX11) (T := TX11) (N := 49) hx hb hts hin hown hK hP 0 rfl rfl 7 (by decide) (hts (.fieldLink RX11 146 "SocietyBookModel" "papers" "I") (by decide +kernel)) (fun _ h9 => h9) rfl dX11_digest_35 ?_
      refine lv_icmp_ge (tgt := 78) hx hb dX11_digest_38 (by decide) (fun c => absurd c (lb_nc hi1)) (fun _ => ?_)
      refine lv_iconst (v := 0) hx hb dX11_digest_41 (by decide) ?_
      refine lv_istore (lv' := [(4, .int 0), (3, .int (nI i1)), (1, .long (L_dig2 F M i1)), (0, .ref h)]) hx hb dX11_digest_42 hl (by decide) rfl (fun ls hl => ?_)
      refine lp_for (N := 7) (lv := fun i2 => [(4, .int (nI i2)), (3, .int (nI i1)), (1, .long (L_dig3 F M i1 (L_dig2 F M i1) i2)), (0, .ref h)]) (lv_sub hl [0, 1, 2, 3] rfl) (fun i2 hi2 ls hl kk2 => ?_) (fun ls hl => ?_)
      · replace hl : lv_has ls 5 [(4, .int (nI i2)), (3, .int (nI i1)), (1, .long (L_dig3 F M i1 (L_dig2 F M i1) i2)), (0, .ref h)] := hl
        refine lv_iload hx hb dX11_digest_44 (lv_at hl 0 rfl) ?_
        refine lv_bipush (v := 7) hx hb dX11_digest_46 (by decide) ?_
        refine lv_icmp_ge (tgt := 72) hx hb dX11_digest_48 (by decide) (fun c => absurd c (lb_n (by decide) hi2)) (fun _ => ?_)
        refine lv_ldc2 (v := (31)) hx hb hown (hts (.constantLong RX11 242 (31)) (by decide +kernel)) dX11_digest_51 ?_
        refine lv_lload_n hx hb dX11_digest_54 rfl (lv_at hl 2 rfl) ?_
        refine lv_lmul hx hb dX11_digest_55 ?_
        refine lv_aload_n hx hb dX11_digest_56 rfl (lv_at hl 3 rfl) ?_
        refine lv_iload_n hx hb dX11_digest_57 rfl (lv_at hl 1 rfl) ?_
        refine lv_iload hx hb dX11_digest_58 (lv_at hl 0 rfl) ?_
        refine vp_callSi (W.runV (As := [.int (nI i1), .int (nI i2)]) (rest := [.long ((31) * (L_dig3 F M i1 (L_dig2 F M i1) i2))]) ⟨hx, hb, hml, hown, hts⟩ (c_X11_toldOf l dC dI h a cI cB cZ F M (nI i1) (nI i2) hI (vp_in_nI (show i1 < 24 by omega) (by decide))) (cwV 2 hts gX11_digest_X11_toldOf rfl rfl rfl (by decide +kernel) ⟨Nat.le_of_ble_eq_true rfl, Nat.le_of_ble_eq_true rfl⟩) ⟨pm_blind, va_recv hK hP (ci := 10) (q0 := 0) rfl rfl, fun U hU hW => ⟨rfl, by rw [hU]; exact hP, va_K.moved hW.alike hK⟩⟩ rfl rfl hl.1 rfl (lv_room (Nat.le_of_ble_eq_true rfl)) dX11_digest_60 ⟨Nat.zero_le _, Nat.zero_le _⟩) (fun r hr9 => ?_)
        subst hr9
        refine lv_i2l hx hb dX11_digest_63 (v := (s_X11_toldOf F M (nI i1) (nI i2)).toInt64) rfl ?_
        refine lv_ladd hx hb dX11_digest_64 ?_
        refine lv_lstore_n (lv' := [(1, .long (((31) * (L_dig3 F M i1 (L_dig2 F M i1) i2)) + ((s_X11_toldOf F M (nI i1) (nI i2)).toInt64))), (4, .int (nI i2)), (3, .int (nI i1)), (0, .ref h)]) hx hb dX11_digest_65 rfl hl (by decide) rfl (fun ls hl => ?_)
        refine lv_iinc (v := nI (i2 + 1)) (lv' := [(4, .int (nI (i2 + 1))), (1, .long (((31) * (L_dig3 F M i1 (L_dig2 F M i1) i2)) + ((s_X11_toldOf F M (nI i1) (nI i2)).toInt64))), (3, .int (nI i1)), (0, .ref h)]) hx hb dX11_digest_66 hl (k := 1) rfl (nI_1 i2) (by decide) rfl (fun ls hl => ?_)
        refine lv_goto (tgt := 44) hx hb dX11_digest_69 (by decide) ?_
        have e9 : L_dig3 F M i1 (L_dig2 F M i1) (i2 + 1) = ((31) * (L_dig3 F M i1 (L_dig2 F M i1) i2)) + ((s_X11_toldOf F M (nI i1) (nI i2)).toInt64) := by rw [L_dig3]
        refine kk2 ls (show lv_has ls 5 [(4, .int (nI (i2 + 1))), (3, .int (nI i1)), (1, .long (L_dig3 F M i1 (L_dig2 F M i1) (i2 + 1))), (0, .ref h)] from ?_)
        rw [e9]; exact lv_sub hl [0, 2, 1, 3] rfl
      · replace hl : lv_has ls 5 [(4, .int (nI 7)), (3, .int (nI i1)), (1, .long (L_dig3 F M i1 (L_dig2 F M i1) 7)), (0, .ref h)] := hl
        refine lv_iload hx hb dX11_digest_44 (lv_at hl 0 rfl) ?_
        refine lv_bipush (v := 7) hx hb dX11_digest_46 (by decide) ?_
        refine lv_icmp_ge (tgt := 72) hx hb dX11_digest_48 (by decide) (fun _ => ?_) (fun c => absurd (lb_y (by decide)) c)
        refine lv_iinc (v := nI (i1 + 1)) (lv' := [(3, .int (nI (i1 + 1))), (4, .int (nI 7)), (1, .long (L_dig3 F M i1 (L_dig2 F M i1) 7)), (0, .ref h)]) hx hb dX11_digest_72 hl (k := 1) rfl (nI_1 i1) (by decide) rfl (fun ls hl => ?_)
        refine lv_goto (tgt := 33) hx hb dX11_digest_75 (by decide) ?_
        have e9 : L_dig2 F M (i1 + 1) = (L_dig3 F M i1 (L_dig2 F M i1) 7) := by rw [L_dig2]
        refine kk1 ls (show lv_has ls 5 [(3, .int (nI (i1 + 1))), (1, .long (L_dig2 F M (i1 + 1))), (0, .ref h)] from ?_)
        rw [e9]; exact lv_sub hl [0, 2, 3] rfl
    · replace hl : lv_has ls 5 [(3, .int (nI (F 7).toNatClampNeg)), (1, .long (L_dig2 F M (F 7).toNatClampNeg)), (0, .ref h)] := hl
      refine lv_iload_n hx hb dX11_digest_33 rfl (lv_at hl 0 rfl) ?_
      refine lv_aload_n hx hb dX11_digest_34 rfl (lv_at hl 2 rfl) ?_
      refine va_get (D := (dC, dI)) (ci := 10) (v := .int (F 7)) (C := RX11) (T := TX11) (N := 49) hx hb hts hin hown hK hP 0 rfl rfl 7 (by decide) (hts (.fieldLink RX11 146 "SocietyBookModel" "papers" "I") (by decide +kernel)) (fun _ h9 => h9) rfl dX11_digest_35 ?_
      refine lv_icmp_ge (tgt := 78) hx hb dX11_digest_38 (by decide) (fun _ => ?_) (fun c => absurd lb_yc c)
      refine lv_iconst (v := 0) hx hb dX11_digest_78 (by decide) ?_
      refine lv_istore_n (lv' := [(3, .int 0), (1, .long (L_dig2 F M (F 7).toNatClampNeg)), (0, .ref h)]) hx hb dX11_digest_79 rfl hl (by decide) rfl (fun ls hl => ?_)
      refine lp_for (N := (F 32).toNatClampNeg) (lv := fun i1 => [(3, .int (nI i1)), (1, .long (L_dig4 F M i1)), (0, .ref h)]) (lv_sub hl [0, 1, 2] rfl) (fun i1 hi1 ls hl kk1 => ?_) (fun ls hl => ?_)
      · replace hl : lv_has ls 5 [(3, .int (nI i1)), (1, .long (L_dig4 F M i1)), (0, .ref h)] := hl
        refine lv_iload_n hx hb dX11_digest_80 rfl (lv_at hl 0 rfl) ?_
        refine lv_aload_n hx hb dX11_digest_81 rfl (lv_at hl 2 rfl) ?_
        refine va_get (D := (dC, dI)) (ci := 10) (v := .int (F 32)) (C := RX11) (T := TX11) (N := 49) hx hb hts hin hown hK hP 0 rfl rfl 32 (by decide) (hts (.fieldLink RX11 199 "SocietyBookModel" "candidates" "I") (by decide +kernel)) (fun _ h9 => h9) rfl dX11_digest_82 ?_
        refine lv_icmp_ge (tgt := 121) hx hb dX11_digest_85 (by decide) (fun c => absurd c (lb_nc hi1)) (fun _ => ?_)
        refine lv_ldc2 (v := (31)) hx hb hown (hts (.constantLong RX11 242 (31)) (by decide +kernel)) dX11_digest_88 ?_
        refine lv_lload_n hx hb dX11_digest_91 rfl (lv_at hl 1 rfl) ?_
        refine lv_lmul hx hb dX11_digest_92 ?_
        refine lv_aload_n hx hb dX11_digest_93 rfl (lv_at hl 2 rfl) ?_
        refine va_get (D := (dC, dI)) (ci := 10) (v := .ref (a 35)) (C := RX11) (T := TX11) (N := 49) hx hb hts hin hown hK hP 0 rfl rfl 35 (by decide) (hts (.fieldLink RX11 89 "SocietyBookModel" "isGone" "[Z") (by decide +kernel)) (fun _ h9 => h9) rfl dX11_digest_94 ?_
        refine lv_iload_n hx hb dX11_digest_97 rfl (lv_at hl 0 rfl) ?_
        refine va_zald (f := M 35) hx hb hK hP 27 2 rfl rfl (vp_in_nI (show i1 < 20 by omega) (by decide)) dX11_digest_98 ?_
        rw [nI_clamp (show i1 < 2 ^ 31 by omega)]
        refine lv_if_eq (tgt := 106) hx hb dX11_digest_99 (by decide) (fun c1 => ?_) (fun c1 => ?_)
        · refine lv_aload_n hx hb dX11_digest_106 rfl (lv_at hl 2 rfl) ?_
          refine va_get (D := (dC, dI)) (ci := 10) (v := .ref (a 34)) (C := RX11) (T := TX11) (N := 49) hx hb hts hin hown hK hP 0 rfl rfl 34 (by decide) (hts (.fieldLink RX11 86 "SocietyBookModel" "proposersOf" "[I") (by decide +kernel)) (fun _ h9 => h9) rfl dX11_digest_107 ?_
          refine lv_iload_n hx hb dX11_digest_110 rfl (lv_at hl 0 rfl) ?_
          refine va_iald (f := M 34) hx hb hK hP 26 0 rfl rfl (vp_in_nI (show i1 < 20 by omega) (by decide)) dX11_digest_111 ?_
          rw [nI_clamp (show i1 < 2 ^ 31 by omega)]
          refine lv_i2l hx hb dX11_digest_112 (v := ((M 34) i1).toInt64) rfl ?_
          refine lv_ladd hx hb dX11_digest_113 ?_
          refine lv_lstore_n (lv' := [(1, .long (((31) * (L_dig4 F M i1)) + (((M 34) i1).toInt64))), (3, .int (nI i1)), (0, .ref h)]) hx hb dX11_digest_114 rfl hl (by decide) rfl (fun ls hl => ?_)
          refine lv_iinc (v := nI (i1 + 1)) (lv' := [(3, .int (nI (i1 + 1))), (1, .long (((31) * (L_dig4 F M i1)) + (((M 34) i1).toInt64))), (0, .ref h)]) hx hb dX11_digest_115 hl (k := 1) rfl (nI_1 i1) (by decide) rfl (fun ls hl => ?_)
          refine lv_goto (tgt := 80) hx hb dX11_digest_118 (by decide) ?_
          have e9 : L_dig4 F M (i1 + 1) = ((31) * (L_dig4 F M i1)) + (((M 34) i1).toInt64) := by rw [L_dig4]; rw [if_pos c1]
          refine kk1 ls (show lv_has ls 5 [(3, .int (nI (i1 + 1))), (1, .long (L_dig4 F M (i1 + 1))), (0, .ref h)] from ?_)
          rw [e9]; exact lv_sub hl [0, 1, 2] rfl
        · refine lv_iconst (v := (-1)) hx hb dX11_digest_102 (by decide) ?_
          refine lv_goto (tgt := 112) hx hb dX11_digest_103 (by decide) ?_
          refine lv_i2l hx hb dX11_digest_112 (v := (-1 : Int32).toInt64) rfl ?_
          refine lv_ladd hx hb dX11_digest_113 ?_
          refine lv_lstore_n (lv' := [(1, .long (((31) * (L_dig4 F M i1)) + ((-1 : Int32).toInt64))), (3, .int (nI i1)), (0, .ref h)]) hx hb dX11_digest_114 rfl hl (by decide) rfl (fun ls hl => ?_)
          refine lv_iinc (v := nI (i1 + 1)) (lv' := [(3, .int (nI (i1 + 1))), (1, .long (((31) * (L_dig4 F M i1)) + ((-1 : Int32).toInt64))), (0, .ref h)]) hx hb dX11_digest_115 hl (k := 1) rfl (nI_1 i1) (by decide) rfl (fun ls hl => ?_)
          refine lv_goto (tgt := 80) hx hb dX11_digest_118 (by decide) ?_
          have e9 : L_dig4 F M (i1 + 1) = ((31) * (L_dig4 F M i1)) + ((-1 : Int32).toInt64) := by rw [L_dig4]; rw [if_neg c1]
          refine kk1 ls (show lv_has ls 5 [(3, .int (nI (i1 + 1))), (1, .long (L_dig4 F M (i1 + 1))), (0, .ref h)] from ?_)
          rw [e9]; exact lv_sub hl [0, 1, 2] rfl
      · replace hl : lv_has ls 5 [(3, .int (nI (F 32).toNatClampNeg)), (1, .long (L_dig4 F M (F 32).toNatClampNeg)), (0, .ref h)] := hl
        refine lv_iload_n hx hb dX11_digest_80 rfl (lv_at hl 0 rfl) ?_
        refine lv_aload_n hx hb dX11_digest_81 rfl (lv_at hl 2 rfl) ?_
        refine va_get (D := (dC, dI)) (ci := 10) (v := .int (F 32)) (C := RX11) (T := TX11) (N := 49) hx hb hts hin hown hK hP 0 rfl rfl 32 (by decide) (hts (.fieldLink RX11 199 "SocietyBookModel" "candidates" "I") (by decide +kernel)) (fun _ h9 => h9) rfl dX11_digest_82 ?_
        refine lv_icmp_ge (tgt := 121) hx hb dX11_digest_85 (by decide) (fun _ => ?_) (fun c => absurd lb_yc c)
        refine lv_iconst (v := 0) hx hb dX11_digest_121 (by decide) ?_
        refine lv_istore_n (lv' := [(3, .int 0), (1, .long (L_dig4 F M (F 32).toNatClampNeg)), (0, .ref h)]) hx hb dX11_digest_122 rfl hl (by decide) rfl (fun ls hl => ?_)
        refine lp_for (N := 72) (lv := fun i1 => [(3, .int (nI i1)), (1, .long (L_dig5 F M i1)), (0, .ref h)]) (lv_sub hl [0, 1, 2] rfl) (fun i1 hi1 ls hl kk1 => ?_) (fun ls hl => ?_)
        · replace hl : lv_has ls 5 [(3, .int (nI i1)), (1, .long (L_dig5 F M i1)), (0, .ref h)] := hl
          refine lv_iload_n hx hb dX11_digest_123 rfl (lv_at hl 0 rfl) ?_
          refine lv_bipush (v := 72) hx hb dX11_digest_124 (by decide) ?_
          refine lv_icmp_ge (tgt := 149) hx hb dX11_digest_126 (by decide) (fun c => absurd c (lb_n (by decide) hi1)) (fun _ => ?_)
          refine lv_ldc2 (v := (31)) hx hb hown (hts (.constantLong RX11 242 (31)) (by decide +kernel)) dX11_digest_129 ?_
          refine lv_lload_n hx hb dX11_digest_132 rfl (lv_at hl 1 rfl) ?_
          refine lv_lmul hx hb dX11_digest_133 ?_
          refine lv_aload_n hx hb dX11_digest_134 rfl (lv_at hl 2 rfl) ?_
          refine va_get (D := (dC, dI)) (ci := 10) (v := .ref (a 42)) (C := RX11) (T := TX11) (N := 49) hx hb hts hin hown hK hP 0 rfl rfl 42 (by decide) (hts (.fieldLink RX11 107 "SocietyBookModel" "copies" "[I") (by decide +kernel)) (fun _ h9 => h9) rfl dX11_digest_135 ?_
          refine lv_iload_n hx hb dX11_digest_138 rfl (lv_at hl 0 rfl) ?_
          refine va_iald (f := M 42) hx hb hK hP 33 0 rfl rfl (vp_in_nI (show i1 < 72 by omega) (by decide)) dX11_digest_139 ?_
          rw [nI_clamp (show i1 < 2 ^ 31 by omega)]
          refine lv_i2l hx hb dX11_digest_140 (v := ((M 42) i1).toInt64) rfl ?_
          refine lv_ladd hx hb dX11_digest_141 ?_
          refine lv_lstore_n (lv' := [(1, .long (((31) * (L_dig5 F M i1)) + (((M 42) i1).toInt64))), (3, .int (nI i1)), (0, .ref h)]) hx hb dX11_digest_142 rfl hl (by decide) rfl (fun ls hl => ?_)
          refine lv_iinc (v := nI (i1 + 1)) (lv' := [(3, .int (nI (i1 + 1))), (1, .long (((31) * (L_dig5 F M i1)) + (((M 42) i1).toInt64))), (0, .ref h)]) hx hb dX11_digest_143 hl (k := 1) rfl (nI_1 i1) (by decide) rfl (fun ls hl => ?_)
          refine lv_goto (tgt := 123) hx hb dX11_digest_146 (by decide) ?_
          have e9 : L_dig5 F M (i1 + 1) = ((31) * (L_dig5 F M i1)) + (((M 42) i1).toInt64) := by rw [L_dig5]
          refine kk1 ls (show lv_has ls 5 [(3, .int (nI (i1 + 1))), (1, .long (L_dig5 F M (i1 + 1))), (0, .ref h)] from ?_)
          rw [e9]; exact lv_sub hl [0, 1, 2] rfl
        · replace hl : lv_has ls 5 [(3, .int (nI 72)), (1, .long (L_dig5 F M 72)), (0, .ref h)] := hl
          refine lv_iload_n hx hb dX11_digest_123 rfl (lv_at hl 0 rfl) ?_
          refine lv_bipush (v := 72) hx hb dX11_digest_124 (by decide) ?_
          refine lv_icmp_ge (tgt := 149) hx hb dX11_digest_126 (by decide) (fun _ => ?_) (fun c => absurd (lb_y (by decide)) c)
          refine lv_iconst (v := 0) hx hb dX11_digest_149 (by decide) ?_
          refine lv_istore_n (lv' := [(3, .int 0), (1, .long (L_dig5 F M 72)), (0, .ref h)]) hx hb dX11_digest_150 rfl hl (by decide) rfl (fun ls hl => ?_)
          refine lp_for (N := 4) (lv := fun i1 => [(3, .int (nI i1)), (1, .long (L_dig6 F M i1)), (0, .ref h)]) (lv_sub hl [0, 1, 2] rfl) (fun i1 hi1 ls hl kk1 => ?_) (fun ls hl => ?_)
          · replace hl : lv_has ls 5 [(3, .int (nI i1)), (1, .long (L_dig6 F M i1)), (0, .ref h)] := hl
            refine lv_iload_n hx hb dX11_digest_151 rfl (lv_at hl 0 rfl) ?_
            refine lv_iconst (v := 4) hx hb dX11_digest_152 (by decide) ?_
            refine lv_icmp_ge (tgt := 216) hx hb dX11_digest_153 (by decide) (fun c => absurd c (lb_n (by decide) hi1)) (fun _ => ?_)
            refine lv_ldc2 (v := (31)) hx hb hown (hts (.constantLong RX11 242 (31)) (by decide +kernel)) dX11_digest_156 ?_
            refine lv_lload_n hx hb dX11_digest_159 rfl (lv_at hl 1 rfl) ?_
            refine lv_lmul hx hb dX11_digest_160 ?_
            refine lv_aload_n hx hb dX11_digest_161 rfl (lv_at hl 2 rfl) ?_
            refine va_get (D := (dC, dI)) (ci := 10) (v := .ref (a 43)) (C := RX11) (T := TX11) (N := 49) hx hb hts hin hown hK hP 0 rfl rfl 43 (by decide) (hts (.fieldLink RX11 110 "SocietyBookModel" "sheetSize" "[I") (by decide +kernel)) (fun _ h9 => h9) rfl dX11_digest_162 ?_
            refine lv_iload_n hx hb dX11_digest_165 rfl (lv_at hl 0 rfl) ?_
            refine va_iald (f := M 43) hx hb hK hP 34 0 rfl rfl (vp_in_nI (show i1 < 4 by omega) (by decide)) dX11_digest_166 ?_
            rw [nI_clamp (show i1 < 2 ^ 31 by omega)]
            refine lv_i2l hx hb dX11_digest_167 (v := ((M 43) i1).toInt64) rfl ?_
            refine lv_ladd hx hb dX11_digest_168 ?_
            refine lv_lstore_n (lv' := [(1, .long (((31) * (L_dig6 F M i1)) + (((M 43) i1).toInt64))), (3, .int (nI i1)), (0, .ref h)]) hx hb dX11_digest_169 rfl hl (by decide) rfl (fun ls hl => ?_)
            refine lv_iconst (v := 0) hx hb dX11_digest_170 (by decide) ?_
            refine lv_istore (lv' := [(4, .int 0), (1, .long (((31) * (L_dig6 F M i1)) + (((M 43) i1).toInt64))), (3, .int (nI i1)), (0, .ref h)]) hx hb dX11_digest_171 hl (by decide) rfl (fun ls hl => ?_)
            refine lp_for (N := ((M 43) i1).toNatClampNeg) (lv := fun i2 => [(4, .int (nI i2)), (1, .long (L_dig7 F M i1 (((31) * (L_dig6 F M i1)) + (((M 43) i1).toInt64)) i2)), (3, .int (nI i1)), (0, .ref h)]) (lv_sub hl [0, 1, 2, 3] rfl) (fun i2 hi2 ls hl kk2 => ?_) (fun ls hl => ?_)
            · replace hl : lv_has ls 5 [(4, .int (nI i2)), (1, .long (L_dig7 F M i1 (((31) * (L_dig6 F M i1)) + (((M 43) i1).toInt64)) i2)), (3, .int (nI i1)), (0, .ref h)] := hl
              refine lv_iload hx hb dX11_digest_173 (lv_at hl 0 rfl) ?_
              refine lv_aload_n hx hb dX11_digest_175 rfl (lv_at hl 3 rfl) ?_
              refine va_get (D := (dC, dI)) (ci := 10) (v := .ref (a 43)) (C := RX11) (T := TX11) (N := 49) hx hb hts hin hown hK hP 0 rfl rfl 43 (by decide) (hts (.fieldLink RX11 110 "SocietyBookModel" "sheetSize" "[I") (by decide +kernel)) (fun _ h9 => h9) rfl dX11_digest_176 ?_
              refine lv_iload_n hx hb dX11_digest_179 rfl (lv_at hl 2 rfl) ?_
              refine va_iald (f := M 43) hx hb hK hP 34 0 rfl rfl (vp_in_nI (show i1 < 4 by omega) (by decide)) dX11_digest_180 ?_
              rw [nI_clamp (show i1 < 2 ^ 31 by omega)]
              refine lv_icmp_ge (tgt := 210) hx hb dX11_digest_181 (by decide) (fun c => absurd c (lb_nc hi2)) (fun _ => ?_)
              refine lv_ldc2 (v := (31)) hx hb hown (hts (.constantLong RX11 242 (31)) (by decide +kernel)) dX11_digest_184 ?_
              refine lv_lload_n hx hb dX11_digest_187 rfl (lv_at hl 1 rfl) ?_
              refine lv_lmul hx hb dX11_digest_188 ?_
              refine lv_aload_n hx hb dX11_digest_189 rfl (lv_at hl 3 rfl) ?_
              refine va_get (D := (dC, dI)) (ci := 10) (v := .ref (a 44)) (C := RX11) (T := TX11) (N := 49) hx hb hts hin hown hK hP 0 rfl rfl 44 (by decide) (hts (.fieldLink RX11 113 "SocietyBookModel" "sheets" "[B") (by decide +kernel)) (fun _ h9 => h9) rfl dX11_digest_190 ?_
              refine lv_bipush (v := 12) hx hb dX11_digest_193 (by decide) ?_
              refine lv_iload_n hx hb dX11_digest_195 rfl (lv_at hl 2 rfl) ?_
              refine lv_imul hx hb dX11_digest_196 ?_
              refine lv_iload hx hb dX11_digest_197 (lv_at hl 0 rfl) ?_
              refine lv_iadd hx hb dX11_digest_199 ?_
              refine va_bald (f := M 44) hx hb hK hP 35 1 rfl rfl (nx_in (show (12 * (nI i1)) + (nI i2) = nI ((12 * (i1)) + (i2)) from by show (nI 12 * (nI i1)) + (nI i2) = _; simp only [nI_add, pk_mul]) (by have := ib_s12 hI (j := i1) (by omega); omega) (by decide)) dX11_digest_200 ?_
              rw [nx_cl (show (12 * (nI i1)) + (nI i2) = nI ((12 * (i1)) + (i2)) from by show (nI 12 * (nI i1)) + (nI i2) = _; simp only [nI_add, pk_mul]) (by first | omega | (have := ib_s12 hI (j := i1) (by omega); omega))]
              refine lv_i2l hx hb dX11_digest_201 (v := ((M 44) ((12 * (i1)) + (i2))).toInt64) rfl ?_
              refine lv_ladd hx hb dX11_digest_202 ?_
              refine lv_lstore_n (lv' := [(1, .long (((31) * (L_dig7 F M i1 (((31) * (L_dig6 F M i1)) + (((M 43) i1).toInt64)) i2)) + (((M 44) ((12 * (i1)) + (i2))).toInt64))), (4, .int (nI i2)), (3, .int (nI i1)), (0, .ref h)]) hx hb dX11_digest_203 rfl hl (by decide) rfl (fun ls hl => ?_)
              refine lv_iinc (v := nI (i2 + 1)) (lv' := [(4, .int (nI (i2 + 1))), (1, .long (((31) * (L_dig7 F M i1 (((31) * (L_dig6 F M i1)) + (((M 43) i1).toInt64)) i2)) + (((M 44) ((12 * (i1)) + (i2))).toInt64))), (3, .int (nI i1)), (0, .ref h)]) hx hb dX11_digest_204 hl (k := 1) rfl (nI_1 i2) (by decide) rfl (fun ls hl => ?_)
              refine lv_goto (tgt := 173) hx hb dX11_digest_207 (by decide) ?_
              have e9 : L_dig7 F M i1 (((31) * (L_dig6 F M i1)) + (((M 43) i1).toInt64)) (i2 + 1) = ((31) * (L_dig7 F M i1 (((31) * (L_dig6 F M i1)) + (((M 43) i1).toInt64)) i2)) + (((M 44) ((12 * (i1)) + (i2))).toInt64) := by rw [L_dig7]
              refine kk2 ls (show lv_has ls 5 [(4, .int (nI (i2 + 1))), (1, .long (L_dig7 F M i1 (((31) * (L_dig6 F M i1)) + (((M 43) i1).toInt64)) (i2 + 1))), (3, .int (nI i1)), (0, .ref h)] from ?_)
              rw [e9]; exact lv_sub hl [0, 1, 2, 3] rfl
            · replace hl : lv_has ls 5 [(4, .int (nI ((M 43) i1).toNatClampNeg)), (1, .long (L_dig7 F M i1 (((31) * (L_dig6 F M i1)) + (((M 43) i1).toInt64)) ((M 43) i1).toNatClampNeg)), (3, .int (nI i1)), (0, .ref h)] := hl
              refine lv_iload hx hb dX11_digest_173 (lv_at hl 0 rfl) ?_
              refine lv_aload_n hx hb dX11_digest_175 rfl (lv_at hl 3 rfl) ?_
              refine va_get (D := (dC, dI)) (ci := 10) (v := .ref (a 43)) (C := RX11) (T := TX11) (N := 49) hx hb hts hin hown hK hP 0 rfl rfl 43 (by decide) (hts (.fieldLink RX11 110 "SocietyBookModel" "sheetSize" "[I") (by decide +kernel)) (fun _ h9 => h9) rfl dX11_digest_176 ?_
              refine lv_iload_n hx hb dX11_digest_179 rfl (lv_at hl 2 rfl) ?_
              refine va_iald (f := M 43) hx hb hK hP 34 0 rfl rfl (vp_in_nI (show i1 < 4 by omega) (by decide)) dX11_digest_180 ?_
              rw [nI_clamp (show i1 < 2 ^ 31 by omega)]
              refine lv_icmp_ge (tgt := 210) hx hb dX11_digest_181 (by decide) (fun _ => ?_) (fun c => absurd lb_yc c)
              refine lv_iinc (v := nI (i1 + 1)) (lv' := [(3, .int (nI (i1 + 1))), (4, .int (nI ((M 43) i1).toNatClampNeg)), (1, .long (L_dig7 F M i1 (((31) * (L_dig6 F M i1)) + (((M 43) i1).toInt64)) ((M 43) i1).toNatClampNeg)), (0, .ref h)]) hx hb dX11_digest_210 hl (k := 2) rfl (nI_1 i1) (by decide) rfl (fun ls hl => ?_)
              refine lv_goto (tgt := 151) hx hb dX11_digest_213 (by decide) ?_
              have e9 : L_dig6 F M (i1 + 1) = (L_dig7 F M i1 (((31) * (L_dig6 F M i1)) + (((M 43) i1).toInt64)) ((M 43) i1).toNatClampNeg) := by rw [L_dig6]
              refine kk1 ls (show lv_has ls 5 [(3, .int (nI (i1 + 1))), (1, .long (L_dig6 F M (i1 + 1))), (0, .ref h)] from ?_)
              rw [e9]; exact lv_sub hl [0, 2, 3] rfl
          · replace hl : lv_has ls 5 [(3, .int (nI 4)), (1, .long (L_dig6 F M 4)), (0, .ref h)] := hl
            refine lv_iload_n hx hb dX11_digest_151 rfl (lv_at hl 0 rfl) ?_
            refine lv_iconst (v := 4) hx hb dX11_digest_152 (by decide) ?_
            refine lv_icmp_ge (tgt := 216) hx hb dX11_digest_153 (by decide) (fun _ => ?_) (fun c => absurd (lb_y (by decide)) c)
            refine lv_lload_n hx hb dX11_digest_216 rfl (lv_at hl 1 rfl) ?_
            exact W.lret (v := (L_dig6 F M 4)) hx hb hr (fun t ht hW => ⟨(L_dig6 F M 4), rfl, by unfold s_X11_digest; rfl, ht⟩) (fun _ h => by cases h) dX11_digest_217

def L_lay1 (F : Nat → Int32) (M : Nat → Nat → Int32) (p0 : Int32) : Nat → (Nat → Int32)
  | 0 => M 46
  | i1 + 1 =>
    upd (L_lay1 F M p0 i1) i1 0
def L_lay3 (F : Nat → Int32) (M : Nat → Nat → Int32) (p0 : Int32) (i1 : Nat) (z0 : (Nat → Int32)) : Nat → (Nat → Int32)
  | 0 => z0
  | i2 + 1 =>
    if ((p0 >>> ((nI (i2 + 1)) &&& 31)) &&& 1) = 1 then (if ((M 42) ((12 * ((i2 + 1))) + (i1))) ≤ 1 then (if ((M 42) ((12 * ((i2 + 1))) + (i1))) = 0 then upd (upd (L_lay3 F M p0 i1 z0 i2) (((31 * (1 + (i1))) + 12) + ((i2 + 1))) 0) (((31 * (12 + ((i2 + 1)))) + 18) + (i1)) 1 else
        upd (upd (L_lay3 F M p0 i1 z0 i2) (((31 * (1 + (i1))) + 12) + ((i2 + 1))) 0) (((31 * (12 + ((i2 + 1)))) + 18) + (i1)) 0) else
      if ((M 42) ((12 * ((i2 + 1))) + (i1))) = 0 then upd (upd (L_lay3 F M p0 i1 z0 i2) (((31 * (1 + (i1))) + 12) + ((i2 + 1))) 1) (((31 * (12 + ((i2 + 1)))) + 18) + (i1)) 1 else
      upd (upd (L_lay3 F M p0 i1 z0 i2) (((31 * (1 + (i1))) + 12) + ((i2 + 1))) 1) (((31 * (12 + ((i2 + 1)))) + 18) + (i1)) 0) else
    upd (upd (L_lay3 F M p0 i1 z0 i2) (((31 * (1 + (i1))) + 12) + ((i2 + 1))) 0) (((31 * (12 + ((i2 + 1)))) + 18) + (i1)) 0
def L_lay2 (F : Nat → Int32) (M : Nat → Nat → Int32) (p0 : Int32) : Nat → (Nat → Int32)
  | 0 => (L_lay1 F M p0 961)
  | i1 + 1 =>
    if ((M 42) i1) = 0 then (if ((M 42) i1) ≤ 1 then (L_lay3 F M p0 i1 (upd (upd (L_lay2 F M p0 i1) (1 + (i1)) 1) ((31 * (18 + (i1))) + 30) 0) 5) else
      (L_lay3 F M p0 i1 (upd (upd (L_lay2 F M p0 i1) (1 + (i1)) 1) ((31 * (18 + (i1))) + 30) (((M 42) i1) - 1)) 5)) else
    if ((M 42) i1) ≤ 1 then (L_lay3 F M p0 i1 (upd (upd (L_lay2 F M p0 i1) (1 + (i1)) 0) ((31 * (18 + (i1))) + 30) 0) 5) else
    (L_lay3 F M p0 i1 (upd (upd (L_lay2 F M p0 i1) (1 + (i1)) 0) ((31 * (18 + (i1))) + 30) (((M 42) i1) - 1)) 5)
def s_X11_layRoom (F : Nat → Int32) (M : Nat → Nat → Int32) (p0 : Int32) : ((Nat → Int32) × (Nat → Nat → Int32)) :=
  (F, va_up M 46 (L_lay2 F M p0 12))
set_option maxHeartbeats 4000000 in
set_option maxRecDepth 100000 in
theorem c_X11_layRoom (l : Launch) (dC : Nat → ClassId) (dI : Nat → Nat → Nat) (h : Nat) (a : Nat → Nat) (cI cB cZ : ClassId) (F : Nat → Int32) (M : Nat → Nat → Int32) (p0 : Int32) (A : Nat → Prop) (hD : va_D A (wM h a cI cB cZ F M)) : Met l yX11_layRoom wsX11_layRoom ({ frames := 1, cells := 0, slots := 0, locals := 21 } : Room) (va_Pc [.ref h, .int p0] (pM dC dI h a cI cB cZ F M)) (va_Qv (fun u => u = s_X11_layRoom F M p0) (qM A dC dI h a cI cB cZ) A) 0 0 A := by
  refine Met.ofW (cc := cX11_layRoom) (maxL := 5) (ret := none) (by decide) rfl ?_
  intro p e s m args below meth c s₁ B hml hv
  obtain ⟨rfl, hP, hK⟩ := hv
  have hx := B.exec
  have hb := B.bytes
  have hr := B.returns
  have hts := atoms_spec (ws := wsX11_layRoom) B.pre
  have hown : s.vm.findClass RX11 = some m.cls := findClass_of_methodNamed B.named
  have hlocks := B.notSynchronized
  have hin : ∀ w ∈ wsX110, w ∈ wsX11_layRoom := by decide +kernel
  have hS : va_S A s.heap s.heap [] := va_S.rf
  have hl := lv_entry ([.ref h, .int p0]) (n := 5) (Nat.le_of_ble_eq_true rfl)
  rw [lg_entry_eq]
  generalize (lg_sl ([.ref h, .int p0]) ++ List.replicate (5 - (lg_sl ([.ref h, .int p0])).length) Slot.unset).toArray = ls at hl ⊢
  have hl : lv_has ls 5 [(0, .ref h), (1, .int p0)] := hl
  refine lv_iconst (v := 0) hx hb dX11_layRoom_0 (by decide) ?_
  refine lv_istore_n (lv' := [(2, .int 0), (0, .ref h), (1, .int p0)]) hx hb dX11_layRoom_1 rfl hl (by decide) rfl (fun ls hl => ?_)
  refine lp_forH (N := 961) (lv := fun i1 => [(2, .int (nI i1)), (0, .ref h), (1, .int p0)]) (wd := fun i1 => wM h a cI cB cZ F (va_up M 46 (L_lay1 F M p0 i1))) hP hD hS (lv_sub hl [0, 1, 2] rfl) (fun i1 hi1 ls H locs hl hP hD hS kk1 => ?_) (fun ls H locs hl hP hD hS => ?_)
  · replace hl : lv_has ls 5 [(2, .int (nI i1)), (0, .ref h), (1, .int p0)] := hl
    replace hP : va_P (dC, dI) vwCl (wM h a cI cB cZ F (va_up M 46 (L_lay1 F M p0 i1))) H := hP
    replace hD : va_D A (wM h a cI cB cZ F (va_up M 46 (L_lay1 F M p0 i1))) := hD
    refine lv_iload_n hx hb dX11_layRoom_2 rfl (lv_at hl 0 rfl) ?_
    refine lv_sipush (v := 961) hx hb dX11_layRoom_3 (by decide) ?_
    refine lv_icmp_ge (tgt := 22) hx hb dX11_layRoom_6 (by decide) (fun c => absurd c (lb_n (by decide) hi1)) (fun _ => ?_)
    refine lv_aload_n hx hb dX11_layRoom_9 rfl (lv_at hl 1 rfl) ?_
    refine va_get (D := (dC, dI)) (ci := 10) (v := .ref (a 46)) (C := RX11) (T := TX11) (N := 49) hx hb hts hin hown hK hP 0 rfl rfl 46 (by decide) (hts (.fieldLink RX11 120 "SocietyBookModel" "room" "[I") (by decide +kernel)) (fun _ h9 => h9) rfl dX11_layRoom_10 ?_
    refine lv_iload_n hx hb dX11_layRoom_13 rfl (lv_at hl 0 rfl) ?_
    refine lv_iconst (v := 0) hx hb dX11_layRoom_14 (by decide) ?_
    refine va_iast (f := (L_lay1 F M p0 i1)) hx hb hK hP hD hS 37 0 rfl rfl (vp_in_nI (show i1 < 961 by omega) (by decide)) dX11_layRoom_15 (fun H locs hP hD hS => ?_)
    rw [nI_clamp (show i1 < 2 ^ 31 by omega)] at hP hD
    replace hP : va_P (dC, dI) vwCl (wM h a cI cB cZ F (va_up M 46 (upd (L_lay1 F M p0 i1) i1 0))) H := hP
    replace hD : va_D A (wM h a cI cB cZ F (va_up M 46 (upd (L_lay1 F M p0 i1) i1 0))) := hD
    refine lv_iinc (v := nI (i1 + 1)) (lv' := [(2, .int (nI (i1 + 1))), (0, .ref h), (1, .int p0)]) hx hb dX11_layRoom_16 hl (k := 0) rfl (nI_1 i1) (by decide) rfl (fun ls hl => ?_)
    refine lv_goto (tgt := 2) hx hb dX11_layRoom_19 (by decide) ?_
    have e9 : L_lay1 F M p0 (i1 + 1) = upd (L_lay1 F M p0 i1) i1 0 := by rw [L_lay1]
    refine kk1 ls H locs (show lv_has ls 5 [(2, .int (nI (i1 + 1))), (0, .ref h), (1, .int p0)] from ?_) (show va_P (dC, dI) vwCl (wM h a cI cB cZ F (va_up M 46 (L_lay1 F M p0 (i1 + 1)))) H from ?_) (show va_D A (wM h a cI cB cZ F (va_up M 46 (L_lay1 F M p0 (i1 + 1)))) from ?_) hS
    · exact lv_sub hl [0, 1, 2] rfl
    · rw [e9]; exact hP
    · rw [e9]; exact hD
  · replace hl : lv_has ls 5 [(2, .int (nI 961)), (0, .ref h), (1, .int p0)] := hl
    replace hP : va_P (dC, dI) vwCl (wM h a cI cB cZ F (va_up M 46 (L_lay1 F M p0 961))) H := hP
    replace hD : va_D A (wM h a cI cB cZ F (va_up M 46 (L_lay1 F M p0 961))) := hD
    refine lv_iload_n hx hb dX11_layRoom_2 rfl (lv_at hl 0 rfl) ?_
    refine lv_sipush (v := 961) hx hb dX11_layRoom_3 (by decide) ?_
    refine lv_icmp_ge (tgt := 22) hx hb dX11_layRoom_6 (by decide) (fun _ => ?_) (fun c => absurd (lb_y (by decide)) c)
    refine lv_iconst (v := 0) hx hb dX11_layRoom_22 (by decide) ?_
    refine lv_istore_n (lv' := [(2, .int 0), (0, .ref h), (1, .int p0)]) hx hb dX11_layRoom_23 rfl hl (by decide) rfl (fun ls hl => ?_)
    refine lp_forH (N := 12) (lv := fun i1 => [(2, .int (nI i1)), (0, .ref h), (1, .int p0)]) (wd := fun i1 => wM h a cI cB cZ F (va_up M 46 (L_lay2 F M p0 i1))) hP hD hS (lv_sub hl [0, 1, 2] rfl) (fun i1 hi1 ls H locs hl hP hD hS kk1 => ?_) (fun ls H locs hl hP hD hS => ?_)
    · replace hl : lv_has ls 5 [(2, .int (nI i1)), (0, .ref h), (1, .int p0)] := hl
      replace hP : va_P (dC, dI) vwCl (wM h a cI cB cZ F (va_up M 46 (L_lay2 F M p0 i1))) H := hP
      replace hD : va_D A (wM h a cI cB cZ F (va_up M 46 (L_lay2 F M p0 i1))) := hD
      refine lv_iload_n hx hb dX11_layRoom_24 rfl (lv_at hl 0 rfl) ?_
      refine lv_bipush (v := 12) hx hb dX11_layRoom_25 (by decide) ?_
      refine lv_icmp_ge (tgt := 198) hx hb dX11_layRoom_27 (by decide) (fun c => absurd c (lb_n (by decide) hi1)) (fun _ => ?_)
      refine lv_aload_n hx hb dX11_layRoom_30 rfl (lv_at hl 1 rfl) ?_
      refine va_get (D := (dC, dI)) (ci := 10) (v := .ref (a 46)) (C := RX11) (T := TX11) (N := 49) hx hb hts hin hown hK hP 0 rfl rfl 46 (by decide) (hts (.fieldLink RX11 120 "SocietyBookModel" "room" "[I") (by decide +kernel)) (fun _ h9 => h9) rfl dX11_layRoom_31 ?_
      refine lv_iconst (v := 1) hx hb dX11_layRoom_34 (by decide) ?_
      refine lv_iload_n hx hb dX11_layRoom_35 rfl (lv_at hl 0 rfl) ?_
      refine lv_iadd hx hb dX11_layRoom_36 ?_
      refine lv_aload_n hx hb dX11_layRoom_37 rfl (lv_at hl 1 rfl) ?_
      refine va_get (D := (dC, dI)) (ci := 10) (v := .ref (a 42)) (C := RX11) (T := TX11) (N := 49) hx hb hts hin hown hK hP 0 rfl rfl 42 (by decide) (hts (.fieldLink RX11 107 "SocietyBookModel" "copies" "[I") (by decide +kernel)) (fun _ h9 => h9) rfl dX11_layRoom_38 ?_
      refine lv_iload_n hx hb dX11_layRoom_41 rfl (lv_at hl 0 rfl) ?_
      refine va_iald (f := M 42) hx hb hK hP 33 0 rfl rfl (vp_in_nI (show i1 < 72 by omega) (by decide)) dX11_layRoom_42 ?_
      rw [nI_clamp (show i1 < 2 ^ 31 by omega)]
      refine lv_if_ne (tgt := 50) hx hb dX11_layRoom_43 (by decide) (fun c1 => ?_) (fun c1 => ?_)
      · refine lv_iconst (v := 0) hx hb dX11_layRoom_50 (by decide) ?_
        refine va_iast (f := (L_lay2 F M p0 i1)) hx hb hK hP hD hS 37 0 rfl rfl (nx_in (show 1 + (nI i1) = nI (1 + (i1)) from by show nI 1 + (nI i1) = _; simp only [nI_add, pk_mul]) (by omega) (by decide)) dX11_layRoom_51 (fun H locs hP hD hS => ?_)
        rw [nx_cl (show 1 + (nI i1) = nI (1 + (i1)) from by show nI 1 + (nI i1) = _; simp only [nI_add, pk_mul]) (by omega)] at hP hD
        replace hP : va_P (dC, dI) vwCl (wM h a cI cB cZ F (va_up M 46 (upd (L_lay2 F M p0 i1) (1 + (i1)) 0))) H := hP
        replace hD : va_D A (wM h a cI cB cZ F (va_up M 46 (upd (L_lay2 F M p0 i1) (1 + (i1)) 0))) := hD
        refine lv_aload_n hx hb dX11_layRoom_52 rfl (lv_at hl 1 rfl) ?_
        refine va_get (D := (dC, dI)) (ci := 10) (v := .ref (a 46)) (C := RX11) (T := TX11) (N := 49) hx hb hts hin hown hK hP 0 rfl rfl 46 (by decide) (hts (.fieldLink RX11 120 "SocietyBookModel" "room" "[I") (by decide +kernel)) (fun _ h9 => h9) rfl dX11_layRoom_53 ?_
        refine lv_bipush (v := 31) hx hb dX11_layRoom_56 (by decide) ?_
        refine lv_bipush (v := 18) hx hb dX11_layRoom_58 (by decide) ?_
        refine lv_iload_n hx hb dX11_layRoom_60 rfl (lv_at hl 0 rfl) ?_
        refine lv_iadd hx hb dX11_layRoom_61 ?_
        refine lv_imul hx hb dX11_layRoom_62 ?_
        refine lv_bipush (v := 30) hx hb dX11_layRoom_63 (by decide) ?_
        refine lv_iadd hx hb dX11_layRoom_65 ?_
        refine lv_aload_n hx hb dX11_layRoom_66 rfl (lv_at hl 1 rfl) ?_
        refine va_get (D := (dC, dI)) (ci := 10) (v := .ref (a 42)) (C := RX11) (T := TX11) (N := 49) hx hb hts hin hown hK hP 0 rfl rfl 42 (by decide) (hts (.fieldLink RX11 107 "SocietyBookModel" "copies" "[I") (by decide +kernel)) (fun _ h9 => h9) rfl dX11_layRoom_67 ?_
        refine lv_iload_n hx hb dX11_layRoom_70 rfl (lv_at hl 0 rfl) ?_
        refine va_iald (f := M 42) hx hb hK hP 33 0 rfl rfl (vp_in_nI (show i1 < 72 by omega) (by decide)) dX11_layRoom_71 ?_
        rw [nI_clamp (show i1 < 2 ^ 31 by omega)]
        refine lv_iconst (v := 1) hx hb dX11_layRoom_72 (by decide) ?_
        refine lv_icmp_le (tgt := 87) hx hb dX11_layRoom_73 (by decide) (fun c2 => ?_) (fun c2 => ?_)
        · refine lv_iconst (v := 0) hx hb dX11_layRoom_87 (by decide) ?_
          refine va_iast (f := upd (L_lay2 F M p0 i1) (1 + (i1)) 0) hx hb hK hP hD hS 37 0 rfl rfl (nx_in (show (31 * (18 + (nI i1))) + 30 = nI ((31 * (18 + (i1))) + 30) from by show (nI 31 * (nI 18 + (nI i1))) + nI 30 = _; simp only [nI_add, pk_mul]) (by omega) (by decide)) dX11_layRoom_88 (fun H locs hP hD hS => ?_)
          rw [nx_cl (show (31 * (18 + (nI i1))) + 30 = nI ((31 * (18 + (i1))) + 30) from by show (nI 31 * (nI 18 + (nI i1))) + nI 30 = _; simp only [nI_add, pk_mul]) (by omega)] at hP hD
          replace hP : va_P (dC, dI) vwCl (wM h a cI cB cZ F (va_up M 46 (upd (upd (L_lay2 F M p0 i1) (1 + (i1)) 0) ((31 * (18 + (i1))) + 30) 0))) H := hP
          replace hD : va_D A (wM h a cI cB cZ F (va_up M 46 (upd (upd (L_lay2 F M p0 i1) (1 + (i1)) 0) ((31 * (18 + (i1))) + 30) 0))) := hD
          refine lv_iconst (v := 1) hx hb dX11_layRoom_89 (by decide) ?_
          refine lv_istore_n (lv' := [(3, .int 1), (2, .int (nI i1)), (0, .ref h), (1, .int p0)]) hx hb dX11_layRoom_90 rfl hl (by decide) rfl (fun ls hl => ?_)
          refine lp_forH (N := 5) (lv := fun i2 => [(3, .int (nI (i2 + 1))), (2, .int (nI i1)), (0, .ref h), (1, .int p0)]) (wd := fun i2 => wM h a cI cB cZ F (va_up M 46 (L_lay3 F M p0 i1 (upd (upd (L_lay2 F M p0 i1) (1 + (i1)) 0) ((31 * (18 + (i1))) + 30) 0) i2))) hP hD hS (lv_sub hl [0, 1, 2, 3] rfl) (fun i2 hi2 ls H locs hl hP hD hS kk2 => ?_) (fun ls H locs hl hP hD hS => ?_)
          · replace hl : lv_has ls 5 [(3, .int (nI (i2 + 1))), (2, .int (nI i1)), (0, .ref h), (1, .int p0)] := hl
            replace hP : va_P (dC, dI) vwCl (wM h a cI cB cZ F (va_up M 46 (L_lay3 F M p0 i1 (upd (upd (L_lay2 F M p0 i1) (1 + (i1)) 0) ((31 * (18 + (i1))) + 30) 0) i2))) H := hP
            replace hD : va_D A (wM h a cI cB cZ F (va_up M 46 (L_lay3 F M p0 i1 (upd (upd (L_lay2 F M p0 i1) (1 + (i1)) 0) ((31 * (18 + (i1))) + 30) 0) i2))) := hD
            refine lv_iload_n hx hb dX11_layRoom_91 rfl (lv_at hl 0 rfl) ?_
            refine lv_bipush (v := 6) hx hb dX11_layRoom_92 (by decide) ?_
            refine lv_icmp_ge (tgt := 192) hx hb dX11_layRoom_94 (by decide) (fun c => absurd c (lb_n (N := 6) (by decide) (show i2 + 1 < 6 by omega))) (fun _ => ?_)
            refine lv_iload_n hx hb dX11_layRoom_97 rfl (lv_at hl 3 rfl) ?_
            refine lv_iload_n hx hb dX11_layRoom_98 rfl (lv_at hl 0 rfl) ?_
            refine vp_callSi (W.runS (As := [.int p0, .int (nI (i2 + 1))]) (rest := []) ⟨hx, hb, hml, hown, hts⟩ (c_X11_has l p0 (nI (i2 + 1))) (va_cwS 2 hts gX11_layRoom_X11_has rfl rfl rfl (by decide +kernel) ⟨Nat.le_of_ble_eq_true rfl, Nat.le_of_ble_eq_true rfl⟩) ⟨fun _ _ _ _ q => q, fun U hU hW => ⟨rfl, trivial⟩⟩ rfl rfl hl.1 rfl (lv_room (Nat.le_of_ble_eq_true rfl)) dX11_layRoom_99 ⟨Nat.zero_le _, Nat.zero_le _⟩) (fun r hr9 => ?_)
            subst hr9
            refine lv_istore (lv' := [(4, .int (if ((p0 >>> ((nI (i2 + 1)) &&& 31)) &&& 1) = 1 then (1 : Int32) else 0)), (3, .int (nI (i2 + 1))), (2, .int (nI i1)), (0, .ref h), (1, .int p0)]) hx hb dX11_layRoom_102 hl (by decide) rfl (fun ls hl => ?_)
            refine lv_aload_n hx hb dX11_layRoom_104 rfl (lv_at hl 3 rfl) ?_
            refine va_get (D := (dC, dI)) (ci := 10) (v := .ref (a 46)) (C := RX11) (T := TX11) (N := 49) hx hb hts hin hown hK hP 0 rfl rfl 46 (by decide) (hts (.fieldLink RX11 120 "SocietyBookModel" "room" "[I") (by decide +kernel)) (fun _ h9 => h9) rfl dX11_layRoom_105 ?_
            refine lv_bipush (v := 31) hx hb dX11_layRoom_108 (by decide) ?_
            refine lv_iconst (v := 1) hx hb dX11_layRoom_110 (by decide) ?_
            refine lv_iload_n hx hb dX11_layRoom_111 rfl (lv_at hl 2 rfl) ?_
            refine lv_iadd hx hb dX11_layRoom_112 ?_
            refine lv_imul hx hb dX11_layRoom_113 ?_
            refine lv_bipush (v := 12) hx hb dX11_layRoom_114 (by decide) ?_
            refine lv_iadd hx hb dX11_layRoom_116 ?_
            refine lv_iload_n hx hb dX11_layRoom_117 rfl (lv_at hl 1 rfl) ?_
            refine lv_iadd hx hb dX11_layRoom_118 ?_
            refine lv_iload hx hb dX11_layRoom_119 (lv_at hl 0 rfl) ?_
            refine lv_if_eq (tgt := 143) hx hb dX11_layRoom_121 (by decide) (fun c3 => ?_) (fun c3 => ?_)
            · replace c3 := bo_f c3
              refine lv_iconst (v := 0) hx hb dX11_layRoom_143 (by decide) ?_
              refine va_iast (f := (L_lay3 F M p0 i1 (upd (upd (L_lay2 F M p0 i1) (1 + (i1)) 0) ((31 * (18 + (i1))) + 30) 0) i2)) hx hb hK hP hD hS 37 0 rfl rfl (nx_in (show ((31 * (1 + (nI i1))) + 12) + (nI (i2 + 1)) = nI (((31 * (1 + (i1))) + 12) + ((i2 + 1))) from by show ((nI 31 * (nI 1 + (nI i1))) + nI 12) + (nI (i2 + 1)) = _; simp only [nI_add, pk_mul]) (by omega) (by decide)) dX11_layRoom_144 (fun H locs hP hD hS => ?_)
              rw [nx_cl (show ((31 * (1 + (nI i1))) + 12) + (nI (i2 + 1)) = nI (((31 * (1 + (i1))) + 12) + ((i2 + 1))) from by show ((nI 31 * (nI 1 + (nI i1))) + nI 12) + (nI (i2 + 1)) = _; simp only [nI_add, pk_mul]) (by omega)] at hP hD
              replace hP : va_P (dC, dI) vwCl (wM h a cI cB cZ F (va_up M 46 (upd (L_lay3 F M p0 i1 (upd (upd (L_lay2 F M p0 i1) (1 + (i1)) 0) ((31 * (18 + (i1))) + 30) 0) i2) (((31 * (1 + (i1))) + 12) + ((i2 + 1))) 0))) H := hP
              replace hD : va_D A (wM h a cI cB cZ F (va_up M 46 (upd (L_lay3 F M p0 i1 (upd (upd (L_lay2 F M p0 i1) (1 + (i1)) 0) ((31 * (18 + (i1))) + 30) 0) i2) (((31 * (1 + (i1))) + 12) + ((i2 + 1))) 0))) := hD
              refine lv_aload_n hx hb dX11_layRoom_145 rfl (lv_at hl 3 rfl) ?_
              refine va_get (D := (dC, dI)) (ci := 10) (v := .ref (a 46)) (C := RX11) (T := TX11) (N := 49) hx hb hts hin hown hK hP 0 rfl rfl 46 (by decide) (hts (.fieldLink RX11 120 "SocietyBookModel" "room" "[I") (by decide +kernel)) (fun _ h9 => h9) rfl dX11_layRoom_146 ?_
              refine lv_bipush (v := 31) hx hb dX11_layRoom_149 (by decide) ?_
              refine lv_bipush (v := 12) hx hb dX11_layRoom_151 (by decide) ?_
              refine lv_iload_n hx hb dX11_layRoom_153 rfl (lv_at hl 1 rfl) ?_
              refine lv_iadd hx hb dX11_layRoom_154 ?_
              refine lv_imul hx hb dX11_layRoom_155 ?_
              refine lv_bipush (v := 18) hx hb dX11_layRoom_156 (by decide) ?_
              refine lv_iadd hx hb dX11_layRoom_158 ?_
              refine lv_iload_n hx hb dX11_layRoom_159 rfl (lv_at hl 2 rfl) ?_
              refine lv_iadd hx hb dX11_layRoom_160 ?_
              refine lv_iload hx hb dX11_layRoom_161 (lv_at hl 0 rfl) ?_
              refine lv_if_eq (tgt := 184) hx hb dX11_layRoom_163 (by decide) (fun _ => ?_) (fun c => absurd (bo_t c) c3)
              refine lv_iconst (v := 0) hx hb dX11_layRoom_184 (by decide) ?_
              refine va_iast (f := upd (L_lay3 F M p0 i1 (upd (upd (L_lay2 F M p0 i1) (1 + (i1)) 0) ((31 * (18 + (i1))) + 30) 0) i2) (((31 * (1 + (i1))) + 12) + ((i2 + 1))) 0) hx hb hK hP hD hS 37 0 rfl rfl (nx_in (show ((31 * (12 + (nI (i2 + 1)))) + 18) + (nI i1) = nI (((31 * (12 + ((i2 + 1)))) + 18) + (i1)) from by show ((nI 31 * (nI 12 + (nI (i2 + 1)))) + nI 18) + (nI i1) = _; simp only [nI_add, pk_mul]) (by omega) (by decide)) dX11_layRoom_185 (fun H locs hP hD hS => ?_)
              rw [nx_cl (show ((31 * (12 + (nI (i2 + 1)))) + 18) + (nI i1) = nI (((31 * (12 + ((i2 + 1)))) + 18) + (i1)) from by show ((nI 31 * (nI 12 + (nI (i2 + 1)))) + nI 18) + (nI i1) = _; simp only [nI_add, pk_mul]) (by omega)] at hP hD
              replace hP : va_P (dC, dI) vwCl (wM h a cI cB cZ F (va_up M 46 (upd (upd (L_lay3 F M p0 i1 (upd (upd (L_lay2 F M p0 i1) (1 + (i1)) 0) ((31 * (18 + (i1))) + 30) 0) i2) (((31 * (1 + (i1))) + 12) + ((i2 + 1))) 0) (((31 * (12 + ((i2 + 1)))) + 18) + (i1)) 0))) H := hP
              replace hD : va_D A (wM h a cI cB cZ F (va_up M 46 (upd (upd (L_lay3 F M p0 i1 (upd (upd (L_lay2 F M p0 i1) (1 + (i1)) 0) ((31 * (18 + (i1))) + 30) 0) i2) (((31 * (1 + (i1))) + 12) + ((i2 + 1))) 0) (((31 * (12 + ((i2 + 1)))) + 18) + (i1)) 0))) := hD
              refine lv_iinc (v := nI ((i2 + 1) + 1)) (lv' := [(3, .int (nI ((i2 + 1) + 1))), (4, .int (if ((p0 >>> ((nI (i2 + 1)) &&& 31)) &&& 1) = 1 then (1 : Int32) else 0)), (2, .int (nI i1)), (0, .ref h), (1, .int p0)]) hx hb dX11_layRoom_186 hl (k := 1) rfl (nI_1 (i2 + 1)) (by decide) rfl (fun ls hl => ?_)
              refine lv_goto (tgt := 91) hx hb dX11_layRoom_189 (by decide) ?_
              have e9 : L_lay3 F M p0 i1 (upd (upd (L_lay2 F M p0 i1) (1 + (i1)) 0) ((31 * (18 + (i1))) + 30) 0) (i2 + 1) = upd (upd (L_lay3 F M p0 i1 (upd (upd (L_lay2 F M p0 i1) (1 + (i1)) 0) ((31 * (18 + (i1))) + 30) 0) i2) (((31 * (1 + (i1))) + 12) + ((i2 + 1))) 0) (((31 * (12 + ((i2 + 1)))) + 18) + (i1)) 0 := by rw [L_lay3]; rw [if_neg c3]
              refine kk2 ls H locs (show lv_has ls 5 [(3, .int (nI ((i2 + 1) + 1))), (2, .int (nI i1)), (0, .ref h), (1, .int p0)] from ?_) (show va_P (dC, dI) vwCl (wM h a cI cB cZ F (va_up M 46 (L_lay3 F M p0 i1 (upd (upd (L_lay2 F M p0 i1) (1 + (i1)) 0) ((31 * (18 + (i1))) + 30) 0) (i2 + 1)))) H from ?_) (show va_D A (wM h a cI cB cZ F (va_up M 46 (L_lay3 F M p0 i1 (upd (upd (L_lay2 F M p0 i1) (1 + (i1)) 0) ((31 * (18 + (i1))) + 30) 0) (i2 + 1)))) from ?_) hS
              · exact lv_sub hl [0, 2, 3, 4] rfl
              · rw [e9]; exact hP
              · rw [e9]; exact hD
            · replace c3 := bo_t c3
              refine lv_aload_n hx hb dX11_layRoom_124 rfl (lv_at hl 3 rfl) ?_
              refine va_get (D := (dC, dI)) (ci := 10) (v := .ref (a 42)) (C := RX11) (T := TX11) (N := 49) hx hb hts hin hown hK hP 0 rfl rfl 42 (by decide) (hts (.fieldLink RX11 107 "SocietyBookModel" "copies" "[I") (by decide +kernel)) (fun _ h9 => h9) rfl dX11_layRoom_125 ?_
              refine lv_bipush (v := 12) hx hb dX11_layRoom_128 (by decide) ?_
              refine lv_iload_n hx hb dX11_layRoom_130 rfl (lv_at hl 1 rfl) ?_
              refine lv_imul hx hb dX11_layRoom_131 ?_
              refine lv_iload_n hx hb dX11_layRoom_132 rfl (lv_at hl 2 rfl) ?_
              refine lv_iadd hx hb dX11_layRoom_133 ?_
              refine va_iald (f := M 42) hx hb hK hP 33 0 rfl rfl (nx_in (show (12 * (nI (i2 + 1))) + (nI i1) = nI ((12 * ((i2 + 1))) + (i1)) from by show (nI 12 * (nI (i2 + 1))) + (nI i1) = _; simp only [nI_add, pk_mul]) (by omega) (by decide)) dX11_layRoom_134 ?_
              rw [nx_cl (show (12 * (nI (i2 + 1))) + (nI i1) = nI ((12 * ((i2 + 1))) + (i1)) from by show (nI 12 * (nI (i2 + 1))) + (nI i1) = _; simp only [nI_add, pk_mul]) (by omega)]
              refine lv_iconst (v := 1) hx hb dX11_layRoom_135 (by decide) ?_
              refine lv_icmp_le (tgt := 143) hx hb dX11_layRoom_136 (by decide) (fun c5 => ?_) (fun c5 => ?_)
              · refine lv_iconst (v := 0) hx hb dX11_layRoom_143 (by decide) ?_
                refine va_iast (f := (L_lay3 F M p0 i1 (upd (upd (L_lay2 F M p0 i1) (1 + (i1)) 0) ((31 * (18 + (i1))) + 30) 0) i2)) hx hb hK hP hD hS 37 0 rfl rfl (nx_in (show ((31 * (1 + (nI i1))) + 12) + (nI (i2 + 1)) = nI (((31 * (1 + (i1))) + 12) + ((i2 + 1))) from by show ((nI 31 * (nI 1 + (nI i1))) + nI 12) + (nI (i2 + 1)) = _; simp only [nI_add, pk_mul]) (by omega) (by decide)) dX11_layRoom_144 (fun H locs hP hD hS => ?_)
                rw [nx_cl (show ((31 * (1 + (nI i1))) + 12) + (nI (i2 + 1)) = nI (((31 * (1 + (i1))) + 12) + ((i2 + 1))) from by show ((nI 31 * (nI 1 + (nI i1))) + nI 12) + (nI (i2 + 1)) = _; simp only [nI_add, pk_mul]) (by omega)] at hP hD
                replace hP : va_P (dC, dI) vwCl (wM h a cI cB cZ F (va_up M 46 (upd (L_lay3 F M p0 i1 (upd (upd (L_lay2 F M p0 i1) (1 + (i1)) 0) ((31 * (18 + (i1))) + 30) 0) i2) (((31 * (1 + (i1))) + 12) + ((i2 + 1))) 0))) H := hP
                replace hD : va_D A (wM h a cI cB cZ F (va_up M 46 (upd (L_lay3 F M p0 i1 (upd (upd (L_lay2 F M p0 i1) (1 + (i1)) 0) ((31 * (18 + (i1))) + 30) 0) i2) (((31 * (1 + (i1))) + 12) + ((i2 + 1))) 0))) := hD
                refine lv_aload_n hx hb dX11_layRoom_145 rfl (lv_at hl 3 rfl) ?_
                refine va_get (D := (dC, dI)) (ci := 10) (v := .ref (a 46)) (C := RX11) (T := TX11) (N := 49) hx hb hts hin hown hK hP 0 rfl rfl 46 (by decide) (hts (.fieldLink RX11 120 "SocietyBookModel" "room" "[I") (by decide +kernel)) (fun _ h9 => h9) rfl dX11_layRoom_146 ?_
                refine lv_bipush (v := 31) hx hb dX11_layRoom_149 (by decide) ?_
                refine lv_bipush (v := 12) hx hb dX11_layRoom_151 (by decide) ?_
                refine lv_iload_n hx hb dX11_layRoom_153 rfl (lv_at hl 1 rfl) ?_
                refine lv_iadd hx hb dX11_layRoom_154 ?_
                refine lv_imul hx hb dX11_layRoom_155 ?_
                refine lv_bipush (v := 18) hx hb dX11_layRoom_156 (by decide) ?_
                refine lv_iadd hx hb dX11_layRoom_158 ?_
                refine lv_iload_n hx hb dX11_layRoom_159 rfl (lv_at hl 2 rfl) ?_
                refine lv_iadd hx hb dX11_layRoom_160 ?_
                refine lv_iload hx hb dX11_layRoom_161 (lv_at hl 0 rfl) ?_
                refine lv_if_eq (tgt := 184) hx hb dX11_layRoom_163 (by decide) (fun c => absurd c3 (bo_f c)) (fun _ => ?_)
                refine lv_aload_n hx hb dX11_layRoom_166 rfl (lv_at hl 3 rfl) ?_
                refine va_get (D := (dC, dI)) (ci := 10) (v := .ref (a 42)) (C := RX11) (T := TX11) (N := 49) hx hb hts hin hown hK hP 0 rfl rfl 42 (by decide) (hts (.fieldLink RX11 107 "SocietyBookModel" "copies" "[I") (by decide +kernel)) (fun _ h9 => h9) rfl dX11_layRoom_167 ?_
                refine lv_bipush (v := 12) hx hb dX11_layRoom_170 (by decide) ?_
                refine lv_iload_n hx hb dX11_layRoom_172 rfl (lv_at hl 1 rfl) ?_
                refine lv_imul hx hb dX11_layRoom_173 ?_
                refine lv_iload_n hx hb dX11_layRoom_174 rfl (lv_at hl 2 rfl) ?_
                refine lv_iadd hx hb dX11_layRoom_175 ?_
                refine va_iald (f := M 42) hx hb hK hP 33 0 rfl rfl (nx_in (show (12 * (nI (i2 + 1))) + (nI i1) = nI ((12 * ((i2 + 1))) + (i1)) from by show (nI 12 * (nI (i2 + 1))) + (nI i1) = _; simp only [nI_add, pk_mul]) (by omega) (by decide)) dX11_layRoom_176 ?_
                rw [nx_cl (show (12 * (nI (i2 + 1))) + (nI i1) = nI ((12 * ((i2 + 1))) + (i1)) from by show (nI 12 * (nI (i2 + 1))) + (nI i1) = _; simp only [nI_add, pk_mul]) (by omega)]
                refine lv_if_ne (tgt := 184) hx hb dX11_layRoom_177 (by decide) (fun c7 => ?_) (fun c7 => ?_)
                · refine lv_iconst (v := 0) hx hb dX11_layRoom_184 (by decide) ?_
                  refine va_iast (f := upd (L_lay3 F M p0 i1 (upd (upd (L_lay2 F M p0 i1) (1 + (i1)) 0) ((31 * (18 + (i1))) + 30) 0) i2) (((31 * (1 + (i1))) + 12) + ((i2 + 1))) 0) hx hb hK hP hD hS 37 0 rfl rfl (nx_in (show ((31 * (12 + (nI (i2 + 1)))) + 18) + (nI i1) = nI (((31 * (12 + ((i2 + 1)))) + 18) + (i1)) from by show ((nI 31 * (nI 12 + (nI (i2 + 1)))) + nI 18) + (nI i1) = _; simp only [nI_add, pk_mul]) (by omega) (by decide)) dX11_layRoom_185 (fun H locs hP hD hS => ?_)
                  rw [nx_cl (show ((31 * (12 + (nI (i2 + 1)))) + 18) + (nI i1) = nI (((31 * (12 + ((i2 + 1)))) + 18) + (i1)) from by show ((nI 31 * (nI 12 + (nI (i2 + 1)))) + nI 18) + (nI i1) = _; simp only [nI_add, pk_mul]) (by omega)] at hP hD
                  replace hP : va_P (dC, dI) vwCl (wM h a cI cB cZ F (va_up M 46 (upd (upd (L_lay3 F M p0 i1 (upd (upd (L_lay2 F M p0 i1) (1 + (i1)) 0) ((31 * (18 + (i1))) + 30) 0) i2) (((31 * (1 + (i1))) + 12) + ((i2 + 1))) 0) (((31 * (12 + ((i2 + 1)))) + 18) + (i1)) 0))) H := hP
                  replace hD : va_D A (wM h a cI cB cZ F (va_up M 46 (upd (upd (L_lay3 F M p0 i1 (upd (upd (L_lay2 F M p0 i1) (1 + (i1)) 0) ((31 * (18 + (i1))) + 30) 0) i2) (((31 * (1 + (i1))) + 12) + ((i2 + 1))) 0) (((31 * (12 + ((i2 + 1)))) + 18) + (i1)) 0))) := hD
                  refine lv_iinc (v := nI ((i2 + 1) + 1)) (lv' := [(3, .int (nI ((i2 + 1) + 1))), (4, .int (if ((p0 >>> ((nI (i2 + 1)) &&& 31)) &&& 1) = 1 then (1 : Int32) else 0)), (2, .int (nI i1)), (0, .ref h), (1, .int p0)]) hx hb dX11_layRoom_186 hl (k := 1) rfl (nI_1 (i2 + 1)) (by decide) rfl (fun ls hl => ?_)
                  refine lv_goto (tgt := 91) hx hb dX11_layRoom_189 (by decide) ?_
                  have e9 : L_lay3 F M p0 i1 (upd (upd (L_lay2 F M p0 i1) (1 + (i1)) 0) ((31 * (18 + (i1))) + 30) 0) (i2 + 1) = upd (upd (L_lay3 F M p0 i1 (upd (upd (L_lay2 F M p0 i1) (1 + (i1)) 0) ((31 * (18 + (i1))) + 30) 0) i2) (((31 * (1 + (i1))) + 12) + ((i2 + 1))) 0) (((31 * (12 + ((i2 + 1)))) + 18) + (i1)) 0 := by rw [L_lay3]; rw [if_pos c3, if_pos c5, if_neg c7]
                  refine kk2 ls H locs (show lv_has ls 5 [(3, .int (nI ((i2 + 1) + 1))), (2, .int (nI i1)), (0, .ref h), (1, .int p0)] from ?_) (show va_P (dC, dI) vwCl (wM h a cI cB cZ F (va_up M 46 (L_lay3 F M p0 i1 (upd (upd (L_lay2 F M p0 i1) (1 + (i1)) 0) ((31 * (18 + (i1))) + 30) 0) (i2 + 1)))) H from ?_) (show va_D A (wM h a cI cB cZ F (va_up M 46 (L_lay3 F M p0 i1 (upd (upd (L_lay2 F M p0 i1) (1 + (i1)) 0) ((31 * (18 + (i1))) + 30) 0) (i2 + 1)))) from ?_) hS
                  · exact lv_sub hl [0, 2, 3, 4] rfl
                  · rw [e9]; exact hP
                  · rw [e9]; exact hD
                · refine lv_iconst (v := 1) hx hb dX11_layRoom_180 (by decide) ?_
                  refine lv_goto (tgt := 185) hx hb dX11_layRoom_181 (by decide) ?_
                  refine va_iast (f := upd (L_lay3 F M p0 i1 (upd (upd (L_lay2 F M p0 i1) (1 + (i1)) 0) ((31 * (18 + (i1))) + 30) 0) i2) (((31 * (1 + (i1))) + 12) + ((i2 + 1))) 0) hx hb hK hP hD hS 37 0 rfl rfl (nx_in (show ((31 * (12 + (nI (i2 + 1)))) + 18) + (nI i1) = nI (((31 * (12 + ((i2 + 1)))) + 18) + (i1)) from by show ((nI 31 * (nI 12 + (nI (i2 + 1)))) + nI 18) + (nI i1) = _; simp only [nI_add, pk_mul]) (by omega) (by decide)) dX11_layRoom_185 (fun H locs hP hD hS => ?_)
                  rw [nx_cl (show ((31 * (12 + (nI (i2 + 1)))) + 18) + (nI i1) = nI (((31 * (12 + ((i2 + 1)))) + 18) + (i1)) from by show ((nI 31 * (nI 12 + (nI (i2 + 1)))) + nI 18) + (nI i1) = _; simp only [nI_add, pk_mul]) (by omega)] at hP hD
                  replace hP : va_P (dC, dI) vwCl (wM h a cI cB cZ F (va_up M 46 (upd (upd (L_lay3 F M p0 i1 (upd (upd (L_lay2 F M p0 i1) (1 + (i1)) 0) ((31 * (18 + (i1))) + 30) 0) i2) (((31 * (1 + (i1))) + 12) + ((i2 + 1))) 0) (((31 * (12 + ((i2 + 1)))) + 18) + (i1)) 1))) H := hP
                  replace hD : va_D A (wM h a cI cB cZ F (va_up M 46 (upd (upd (L_lay3 F M p0 i1 (upd (upd (L_lay2 F M p0 i1) (1 + (i1)) 0) ((31 * (18 + (i1))) + 30) 0) i2) (((31 * (1 + (i1))) + 12) + ((i2 + 1))) 0) (((31 * (12 + ((i2 + 1)))) + 18) + (i1)) 1))) := hD
                  refine lv_iinc (v := nI ((i2 + 1) + 1)) (lv' := [(3, .int (nI ((i2 + 1) + 1))), (4, .int (if ((p0 >>> ((nI (i2 + 1)) &&& 31)) &&& 1) = 1 then (1 : Int32) else 0)), (2, .int (nI i1)), (0, .ref h), (1, .int p0)]) hx hb dX11_layRoom_186 hl (k := 1) rfl (nI_1 (i2 + 1)) (by decide) rfl (fun ls hl => ?_)
                  refine lv_goto (tgt := 91) hx hb dX11_layRoom_189 (by decide) ?_
                  have e9 : L_lay3 F M p0 i1 (upd (upd (L_lay2 F M p0 i1) (1 + (i1)) 0) ((31 * (18 + (i1))) + 30) 0) (i2 + 1) = upd (upd (L_lay3 F M p0 i1 (upd (upd (L_lay2 F M p0 i1) (1 + (i1)) 0) ((31 * (18 + (i1))) + 30) 0) i2) (((31 * (1 + (i1))) + 12) + ((i2 + 1))) 0) (((31 * (12 + ((i2 + 1)))) + 18) + (i1)) 1 := by rw [L_lay3]; rw [if_pos c3, if_pos c5, if_pos c7]
                  refine kk2 ls H locs (show lv_has ls 5 [(3, .int (nI ((i2 + 1) + 1))), (2, .int (nI i1)), (0, .ref h), (1, .int p0)] from ?_) (show va_P (dC, dI) vwCl (wM h a cI cB cZ F (va_up M 46 (L_lay3 F M p0 i1 (upd (upd (L_lay2 F M p0 i1) (1 + (i1)) 0) ((31 * (18 + (i1))) + 30) 0) (i2 + 1)))) H from ?_) (show va_D A (wM h a cI cB cZ F (va_up M 46 (L_lay3 F M p0 i1 (upd (upd (L_lay2 F M p0 i1) (1 + (i1)) 0) ((31 * (18 + (i1))) + 30) 0) (i2 + 1)))) from ?_) hS
                  · exact lv_sub hl [0, 2, 3, 4] rfl
                  · rw [e9]; exact hP
                  · rw [e9]; exact hD
              · refine lv_iconst (v := 1) hx hb dX11_layRoom_139 (by decide) ?_
                refine lv_goto (tgt := 144) hx hb dX11_layRoom_140 (by decide) ?_
                refine va_iast (f := (L_lay3 F M p0 i1 (upd (upd (L_lay2 F M p0 i1) (1 + (i1)) 0) ((31 * (18 + (i1))) + 30) 0) i2)) hx hb hK hP hD hS 37 0 rfl rfl (nx_in (show ((31 * (1 + (nI i1))) + 12) + (nI (i2 + 1)) = nI (((31 * (1 + (i1))) + 12) + ((i2 + 1))) from by show ((nI 31 * (nI 1 + (nI i1))) + nI 12) + (nI (i2 + 1)) = _; simp only [nI_add, pk_mul]) (by omega) (by decide)) dX11_layRoom_144 (fun H locs hP hD hS => ?_)
                rw [nx_cl (show ((31 * (1 + (nI i1))) + 12) + (nI (i2 + 1)) = nI (((31 * (1 + (i1))) + 12) + ((i2 + 1))) from by show ((nI 31 * (nI 1 + (nI i1))) + nI 12) + (nI (i2 + 1)) = _; simp only [nI_add, pk_mul]) (by omega)] at hP hD
                replace hP : va_P (dC, dI) vwCl (wM h a cI cB cZ F (va_up M 46 (upd (L_lay3 F M p0 i1 (upd (upd (L_lay2 F M p0 i1) (1 + (i1)) 0) ((31 * (18 + (i1))) + 30) 0) i2) (((31 * (1 + (i1))) + 12) + ((i2 + 1))) 1))) H := hP
                replace hD : va_D A (wM h a cI cB cZ F (va_up M 46 (upd (L_lay3 F M p0 i1 (upd (upd (L_lay2 F M p0 i1) (1 + (i1)) 0) ((31 * (18 + (i1))) + 30) 0) i2) (((31 * (1 + (i1))) + 12) + ((i2 + 1))) 1))) := hD
                refine lv_aload_n hx hb dX11_layRoom_145 rfl (lv_at hl 3 rfl) ?_
                refine va_get (D := (dC, dI)) (ci := 10) (v := .ref (a 46)) (C := RX11) (T := TX11) (N := 49) hx hb hts hin hown hK hP 0 rfl rfl 46 (by decide) (hts (.fieldLink RX11 120 "SocietyBookModel" "room" "[I") (by decide +kernel)) (fun _ h9 => h9) rfl dX11_layRoom_146 ?_
                refine lv_bipush (v := 31) hx hb dX11_layRoom_149 (by decide) ?_
                refine lv_bipush (v := 12) hx hb dX11_layRoom_151 (by decide) ?_
                refine lv_iload_n hx hb dX11_layRoom_153 rfl (lv_at hl 1 rfl) ?_
                refine lv_iadd hx hb dX11_layRoom_154 ?_
                refine lv_imul hx hb dX11_layRoom_155 ?_
                refine lv_bipush (v := 18) hx hb dX11_layRoom_156 (by decide) ?_
                refine lv_iadd hx hb dX11_layRoom_158 ?_
                refine lv_iload_n hx hb dX11_layRoom_159 rfl (lv_at hl 2 rfl) ?_
                refine lv_iadd hx hb dX11_layRoom_160 ?_
                refine lv_iload hx hb dX11_layRoom_161 (lv_at hl 0 rfl) ?_
                refine lv_if_eq (tgt := 184) hx hb dX11_layRoom_163 (by decide) (fun c => absurd c3 (bo_f c)) (fun _ => ?_)
                refine lv_aload_n hx hb dX11_layRoom_166 rfl (lv_at hl 3 rfl) ?_
                refine va_get (D := (dC, dI)) (ci := 10) (v := .ref (a 42)) (C := RX11) (T := TX11) (N := 49) hx hb hts hin hown hK hP 0 rfl rfl 42 (by decide) (hts (.fieldLink RX11 107 "SocietyBookModel" "copies" "[I") (by decide +kernel)) (fun _ h9 => h9) rfl dX11_layRoom_167 ?_
                refine lv_bipush (v := 12) hx hb dX11_layRoom_170 (by decide) ?_
                refine lv_iload_n hx hb dX11_layRoom_172 rfl (lv_at hl 1 rfl) ?_
                refine lv_imul hx hb dX11_layRoom_173 ?_
                refine lv_iload_n hx hb dX11_layRoom_174 rfl (lv_at hl 2 rfl) ?_
                refine lv_iadd hx hb dX11_layRoom_175 ?_
                refine va_iald (f := M 42) hx hb hK hP 33 0 rfl rfl (nx_in (show (12 * (nI (i2 + 1))) + (nI i1) = nI ((12 * ((i2 + 1))) + (i1)) from by show (nI 12 * (nI (i2 + 1))) + (nI i1) = _; simp only [nI_add, pk_mul]) (by omega) (by decide)) dX11_layRoom_176 ?_
                rw [nx_cl (show (12 * (nI (i2 + 1))) + (nI i1) = nI ((12 * ((i2 + 1))) + (i1)) from by show (nI 12 * (nI (i2 + 1))) + (nI i1) = _; simp only [nI_add, pk_mul]) (by omega)]
                refine lv_if_ne (tgt := 184) hx hb dX11_layRoom_177 (by decide) (fun c9 => ?_) (fun c9 => ?_)
                · refine lv_iconst (v := 0) hx hb dX11_layRoom_184 (by decide) ?_
                  refine va_iast (f := upd (L_lay3 F M p0 i1 (upd (upd (L_lay2 F M p0 i1) (1 + (i1)) 0) ((31 * (18 + (i1))) + 30) 0) i2) (((31 * (1 + (i1))) + 12) + ((i2 + 1))) 1) hx hb hK hP hD hS 37 0 rfl rfl (nx_in (show ((31 * (12 + (nI (i2 + 1)))) + 18) + (nI i1) = nI (((31 * (12 + ((i2 + 1)))) + 18) + (i1)) from by show ((nI 31 * (nI 12 + (nI (i2 + 1)))) + nI 18) + (nI i1) = _; simp only [nI_add, pk_mul]) (by omega) (by decide)) dX11_layRoom_185 (fun H locs hP hD hS => ?_)
                  rw [nx_cl (show ((31 * (12 + (nI (i2 + 1)))) + 18) + (nI i1) = nI (((31 * (12 + ((i2 + 1)))) + 18) + (i1)) from by show ((nI 31 * (nI 12 + (nI (i2 + 1)))) + nI 18) + (nI i1) = _; simp only [nI_add, pk_mul]) (by omega)] at hP hD
                  replace hP : va_P (dC, dI) vwCl (wM h a cI cB cZ F (va_up M 46 (upd (upd (L_lay3 F M p0 i1 (upd (upd (L_lay2 F M p0 i1) (1 + (i1)) 0) ((31 * (18 + (i1))) + 30) 0) i2) (((31 * (1 + (i1))) + 12) + ((i2 + 1))) 1) (((31 * (12 + ((i2 + 1)))) + 18) + (i1)) 0))) H := hP
                  replace hD : va_D A (wM h a cI cB cZ F (va_up M 46 (upd (upd (L_lay3 F M p0 i1 (upd (upd (L_lay2 F M p0 i1) (1 + (i1)) 0) ((31 * (18 + (i1))) + 30) 0) i2) (((31 * (1 + (i1))) + 12) + ((i2 + 1))) 1) (((31 * (12 + ((i2 + 1)))) + 18) + (i1)) 0))) := hD
                  refine lv_iinc (v := nI ((i2 + 1) + 1)) (lv' := [(3, .int (nI ((i2 + 1) + 1))), (4, .int (if ((p0 >>> ((nI (i2 + 1)) &&& 31)) &&& 1) = 1 then (1 : Int32) else 0)), (2, .int (nI i1)), (0, .ref h), (1, .int p0)]) hx hb dX11_layRoom_186 hl (k := 1) rfl (nI_1 (i2 + 1)) (by decide) rfl (fun ls hl => ?_)
                  refine lv_goto (tgt := 91) hx hb dX11_layRoom_189 (by decide) ?_
                  have e9 : L_lay3 F M p0 i1 (upd (upd (L_lay2 F M p0 i1) (1 + (i1)) 0) ((31 * (18 + (i1))) + 30) 0) (i2 + 1) = upd (upd (L_lay3 F M p0 i1 (upd (upd (L_lay2 F M p0 i1) (1 + (i1)) 0) ((31 * (18 + (i1))) + 30) 0) i2) (((31 * (1 + (i1))) + 12) + ((i2 + 1))) 1) (((31 * (12 + ((i2 + 1)))) + 18) + (i1)) 0 := by rw [L_lay3]; rw [if_pos c3, if_neg c5, if_neg c9]
                  refine kk2 ls H locs (show lv_has ls 5 [(3, .int (nI ((i2 + 1) + 1))), (2, .int (nI i1)), (0, .ref h), (1, .int p0)] from ?_) (show va_P (dC, dI) vwCl (wM h a cI cB cZ F (va_up M 46 (L_lay3 F M p0 i1 (upd (upd (L_lay2 F M p0 i1) (1 + (i1)) 0) ((31 * (18 + (i1))) + 30) 0) (i2 + 1)))) H from ?_) (show va_D A (wM h a cI cB cZ F (va_up M 46 (L_lay3 F M p0 i1 (upd (upd (L_lay2 F M p0 i1) (1 + (i1)) 0) ((31 * (18 + (i1))) + 30) 0) (i2 + 1)))) from ?_) hS
                  · exact lv_sub hl [0, 2, 3, 4] rfl
                  · rw [e9]; exact hP
                  · rw [e9]; exact hD
                · refine lv_iconst (v := 1) hx hb dX11_layRoom_180 (by decide) ?_
                  refine lv_goto (tgt := 185) hx hb dX11_layRoom_181 (by decide) ?_
                  refine va_iast (f := upd (L_lay3 F M p0 i1 (upd (upd (L_lay2 F M p0 i1) (1 + (i1)) 0) ((31 * (18 + (i1))) + 30) 0) i2) (((31 * (1 + (i1))) + 12) + ((i2 + 1))) 1) hx hb hK hP hD hS 37 0 rfl rfl (nx_in (show ((31 * (12 + (nI (i2 + 1)))) + 18) + (nI i1) = nI (((31 * (12 + ((i2 + 1)))) + 18) + (i1)) from by show ((nI 31 * (nI 12 + (nI (i2 + 1)))) + nI 18) + (nI i1) = _; simp only [nI_add, pk_mul]) (by omega) (by decide)) dX11_layRoom_185 (fun H locs hP hD hS => ?_)
                  rw [nx_cl (show ((31 * (12 + (nI (i2 + 1)))) + 18) + (nI i1) = nI (((31 * (12 + ((i2 + 1)))) + 18) + (i1)) from by show ((nI 31 * (nI 12 + (nI (i2 + 1)))) + nI 18) + (nI i1) = _; simp only [nI_add, pk_mul]) (by omega)] at hP hD
                  replace hP : va_P (dC, dI) vwCl (wM h a cI cB cZ F (va_up M 46 (upd (upd (L_lay3 F M p0 i1 (upd (upd (L_lay2 F M p0 i1) (1 + (i1)) 0) ((31 * (18 + (i1))) + 30) 0) i2) (((31 * (1 + (i1))) + 12) + ((i2 + 1))) 1) (((31 * (12 + ((i2 + 1)))) + 18) + (i1)) 1))) H := hP
                  replace hD : va_D A (wM h a cI cB cZ F (va_up M 46 (upd (upd (L_lay3 F M p0 i1 (upd (upd (L_lay2 F M p0 i1) (1 + (i1)) 0) ((31 * (18 + (i1))) + 30) 0) i2) (((31 * (1 + (i1))) + 12) + ((i2 + 1))) 1) (((31 * (12 + ((i2 + 1)))) + 18) + (i1)) 1))) := hD
                  refine lv_iinc (v := nI ((i2 + 1) + 1)) (lv' := [(3, .int (nI ((i2 + 1) + 1))), (4, .int (if ((p0 >>> ((nI (i2 + 1)) &&& 31)) &&& 1) = 1 then (1 : Int32) else 0)), (2, .int (nI i1)), (0, .ref h), (1, .int p0)]) hx hb dX11_layRoom_186 hl (k := 1) rfl (nI_1 (i2 + 1)) (by decide) rfl (fun ls hl => ?_)
                  refine lv_goto (tgt := 91) hx hb dX11_layRoom_189 (by decide) ?_
                  have e9 : L_lay3 F M p0 i1 (upd (upd (L_lay2 F M p0 i1) (1 + (i1)) 0) ((31 * (18 + (i1))) + 30) 0) (i2 + 1) = upd (upd (L_lay3 F M p0 i1 (upd (upd (L_lay2 F M p0 i1) (1 + (i1)) 0) ((31 * (18 + (i1))) + 30) 0) i2) (((31 * (1 + (i1))) + 12) + ((i2 + 1))) 1) (((31 * (12 + ((i2 + 1)))) + 18) + (i1)) 1 := by rw [L_lay3]; rw [if_pos c3, if_neg c5, if_pos c9]
                  refine kk2 ls H locs (show lv_has ls 5 [(3, .int (nI ((i2 + 1) + 1))), (2, .int (nI i1)), (0, .ref h), (1, .int p0)] from ?_) (show va_P (dC, dI) vwCl (wM h a cI cB cZ F (va_up M 46 (L_lay3 F M p0 i1 (upd (upd (L_lay2 F M p0 i1) (1 + (i1)) 0) ((31 * (18 + (i1))) + 30) 0) (i2 + 1)))) H from ?_) (show va_D A (wM h a cI cB cZ F (va_up M 46 (L_lay3 F M p0 i1 (upd (upd (L_lay2 F M p0 i1) (1 + (i1)) 0) ((31 * (18 + (i1))) + 30) 0) (i2 + 1)))) from ?_) hS
                  · exact lv_sub hl [0, 2, 3, 4] rfl
                  · rw [e9]; exact hP
                  · rw [e9]; exact hD
          · replace hl : lv_has ls 5 [(3, .int (nI (5 + 1))), (2, .int (nI i1)), (0, .ref h), (1, .int p0)] := hl
            replace hP : va_P (dC, dI) vwCl (wM h a cI cB cZ F (va_up M 46 (L_lay3 F M p0 i1 (upd (upd (L_lay2 F M p0 i1) (1 + (i1)) 0) ((31 * (18 + (i1))) + 30) 0) 5))) H := hP
            replace hD : va_D A (wM h a cI cB cZ F (va_up M 46 (L_lay3 F M p0 i1 (upd (upd (L_lay2 F M p0 i1) (1 + (i1)) 0) ((31 * (18 + (i1))) + 30) 0) 5))) := hD
            refine lv_iload_n hx hb dX11_layRoom_91 rfl (lv_at hl 0 rfl) ?_
            refine lv_bipush (v := 6) hx hb dX11_layRoom_92 (by decide) ?_
            refine lv_icmp_ge (tgt := 192) hx hb dX11_layRoom_94 (by decide) (fun _ => ?_) (fun c => absurd (lb_y (N := 6) (by decide)) c)
            refine lv_iinc (v := nI (i1 + 1)) (lv' := [(2, .int (nI (i1 + 1))), (3, .int (nI (5 + 1))), (0, .ref h), (1, .int p0)]) hx hb dX11_layRoom_192 hl (k := 1) rfl (nI_1 i1) (by decide) rfl (fun ls hl => ?_)
            refine lv_goto (tgt := 24) hx hb dX11_layRoom_195 (by decide) ?_
            have e9 : L_lay2 F M p0 (i1 + 1) = (L_lay3 F M p0 i1 (upd (upd (L_lay2 F M p0 i1) (1 + (i1)) 0) ((31 * (18 + (i1))) + 30) 0) 5) := by rw [L_lay2]; rw [if_neg c1, if_pos c2]
            refine kk1 ls H locs (show lv_has ls 5 [(2, .int (nI (i1 + 1))), (0, .ref h), (1, .int p0)] from ?_) (show va_P (dC, dI) vwCl (wM h a cI cB cZ F (va_up M 46 (L_lay2 F M p0 (i1 + 1)))) H from ?_) (show va_D A (wM h a cI cB cZ F (va_up M 46 (L_lay2 F M p0 (i1 + 1)))) from ?_) hS
            · exact lv_sub hl [0, 2, 3] rfl
            · rw [e9]; exact hP
            · rw [e9]; exact hD
        · refine lv_aload_n hx hb dX11_layRoom_76 rfl (lv_at hl 1 rfl) ?_
          refine va_get (D := (dC, dI)) (ci := 10) (v := .ref (a 42)) (C := RX11) (T := TX11) (N := 49) hx hb hts hin hown hK hP 0 rfl rfl 42 (by decide) (hts (.fieldLink RX11 107 "SocietyBookModel" "copies" "[I") (by decide +kernel)) (fun _ h9 => h9) rfl dX11_layRoom_77 ?_
          refine lv_iload_n hx hb dX11_layRoom_80 rfl (lv_at hl 0 rfl) ?_
          refine va_iald (f := M 42) hx hb hK hP 33 0 rfl rfl (vp_in_nI (show i1 < 72 by omega) (by decide)) dX11_layRoom_81 ?_
          rw [nI_clamp (show i1 < 2 ^ 31 by omega)]
          refine lv_iconst (v := 1) hx hb dX11_layRoom_82 (by decide) ?_
          refine lv_isub hx hb dX11_layRoom_83 ?_
          refine lv_goto (tgt := 88) hx hb dX11_layRoom_84 (by decide) ?_
          refine va_iast (f := upd (L_lay2 F M p0 i1) (1 + (i1)) 0) hx hb hK hP hD hS 37 0 rfl rfl (nx_in (show (31 * (18 + (nI i1))) + 30 = nI ((31 * (18 + (i1))) + 30) from by show (nI 31 * (nI 18 + (nI i1))) + nI 30 = _; simp only [nI_add, pk_mul]) (by omega) (by decide)) dX11_layRoom_88 (fun H locs hP hD hS => ?_)
          rw [nx_cl (show (31 * (18 + (nI i1))) + 30 = nI ((31 * (18 + (i1))) + 30) from by show (nI 31 * (nI 18 + (nI i1))) + nI 30 = _; simp only [nI_add, pk_mul]) (by omega)] at hP hD
          replace hP : va_P (dC, dI) vwCl (wM h a cI cB cZ F (va_up M 46 (upd (upd (L_lay2 F M p0 i1) (1 + (i1)) 0) ((31 * (18 + (i1))) + 30) (((M 42) i1) - 1)))) H := hP
          replace hD : va_D A (wM h a cI cB cZ F (va_up M 46 (upd (upd (L_lay2 F M p0 i1) (1 + (i1)) 0) ((31 * (18 + (i1))) + 30) (((M 42) i1) - 1)))) := hD
          refine lv_iconst (v := 1) hx hb dX11_layRoom_89 (by decide) ?_
          refine lv_istore_n (lv' := [(3, .int 1), (2, .int (nI i1)), (0, .ref h), (1, .int p0)]) hx hb dX11_layRoom_90 rfl hl (by decide) rfl (fun ls hl => ?_)
          refine lp_forH (N := 5) (lv := fun i2 => [(3, .int (nI (i2 + 1))), (2, .int (nI i1)), (0, .ref h), (1, .int p0)]) (wd := fun i2 => wM h a cI cB cZ F (va_up M 46 (L_lay3 F M p0 i1 (upd (upd (L_lay2 F M p0 i1) (1 + (i1)) 0) ((31 * (18 + (i1))) + 30) (((M 42) i1) - 1)) i2))) hP hD hS (lv_sub hl [0, 1, 2, 3] rfl) (fun i2 hi2 ls H locs hl hP hD hS kk2 => ?_) (fun ls H locs hl hP hD hS => ?_)
          · replace hl : lv_has ls 5 [(3, .int (nI (i2 + 1))), (2, .int (nI i1)), (0, .ref h), (1, .int p0)] := hl
            replace hP : va_P (dC, dI) vwCl (wM h a cI cB cZ F (va_up M 46 (L_lay3 F M p0 i1 (upd (upd (L_lay2 F M p0 i1) (1 + (i1)) 0) ((31 * (18 + (i1))) + 30) (((M 42) i1) - 1)) i2))) H := hP
            replace hD : va_D A (wM h a cI cB cZ F (va_up M 46 (L_lay3 F M p0 i1 (upd (upd (L_lay2 F M p0 i1) (1 + (i1)) 0) ((31 * (18 + (i1))) + 30) (((M 42) i1) - 1)) i2))) := hD
            refine lv_iload_n hx hb dX11_layRoom_91 rfl (lv_at hl 0 rfl) ?_
            refine lv_bipush (v := 6) hx hb dX11_layRoom_92 (by decide) ?_
            refine lv_icmp_ge (tgt := 192) hx hb dX11_layRoom_94 (by decide) (fun c => absurd c (lb_n (N := 6) (by decide) (show i2 + 1 < 6 by omega))) (fun _ => ?_)
            refine lv_iload_n hx hb dX11_layRoom_97 rfl (lv_at hl 3 rfl) ?_
            refine lv_iload_n hx hb dX11_layRoom_98 rfl (lv_at hl 0 rfl) ?_
            refine vp_callSi (W.runS (As := [.int p0, .int (nI (i2 + 1))]) (rest := []) ⟨hx, hb, hml, hown, hts⟩ (c_X11_has l p0 (nI (i2 + 1))) (va_cwS 2 hts gX11_layRoom_X11_has rfl rfl rfl (by decide +kernel) ⟨Nat.le_of_ble_eq_true rfl, Nat.le_of_ble_eq_true rfl⟩) ⟨fun _ _ _ _ q => q, fun U hU hW => ⟨rfl, trivial⟩⟩ rfl rfl hl.1 rfl (lv_room (Nat.le_of_ble_eq_true rfl)) dX11_layRoom_99 ⟨Nat.zero_le _, Nat.zero_le _⟩) (fun r hr9 => ?_)
            subst hr9
            refine lv_istore (lv' := [(4, .int (if ((p0 >>> ((nI (i2 + 1)) &&& 31)) &&& 1) = 1 then (1 : Int32) else 0)), (3, .int (nI (i2 + 1))), (2, .int (nI i1)), (0, .ref h), (1, .int p0)]) hx hb dX11_layRoom_102 hl (by decide) rfl (fun ls hl => ?_)
            refine lv_aload_n hx hb dX11_layRoom_104 rfl (lv_at hl 3 rfl) ?_
            refine va_get (D := (dC, dI)) (ci := 10) (v := .ref (a 46)) (C := RX11) (T := TX11) (N := 49) hx hb hts hin hown hK hP 0 rfl rfl 46 (by decide) (hts (.fieldLink RX11 120 "SocietyBookModel" "room" "[I") (by decide +kernel)) (fun _ h9 => h9) rfl dX11_layRoom_105 ?_
            refine lv_bipush (v := 31) hx hb dX11_layRoom_108 (by decide) ?_
            refine lv_iconst (v := 1) hx hb dX11_layRoom_110 (by decide) ?_
            refine lv_iload_n hx hb dX11_layRoom_111 rfl (lv_at hl 2 rfl) ?_
            refine lv_iadd hx hb dX11_layRoom_112 ?_
            refine lv_imul hx hb dX11_layRoom_113 ?_
            refine lv_bipush (v := 12) hx hb dX11_layRoom_114 (by decide) ?_
            refine lv_iadd hx hb dX11_layRoom_116 ?_
            refine lv_iload_n hx hb dX11_layRoom_117 rfl (lv_at hl 1 rfl) ?_
            refine lv_iadd hx hb dX11_layRoom_118 ?_
            refine lv_iload hx hb dX11_layRoom_119 (lv_at hl 0 rfl) ?_
            refine lv_if_eq (tgt := 143) hx hb dX11_layRoom_121 (by decide) (fun c10 => ?_) (fun c10 => ?_)
            · replace c10 := bo_f c10
              refine lv_iconst (v := 0) hx hb dX11_layRoom_143 (by decide) ?_
              refine va_iast (f := (L_lay3 F M p0 i1 (upd (upd (L_lay2 F M p0 i1) (1 + (i1)) 0) ((31 * (18 + (i1))) + 30) (((M 42) i1) - 1)) i2)) hx hb hK hP hD hS 37 0 rfl rfl (nx_in (show ((31 * (1 + (nI i1))) + 12) + (nI (i2 + 1)) = nI (((31 * (1 + (i1))) + 12) + ((i2 + 1))) from by show ((nI 31 * (nI 1 + (nI i1))) + nI 12) + (nI (i2 + 1)) = _; simp only [nI_add, pk_mul]) (by omega) (by decide)) dX11_layRoom_144 (fun H locs hP hD hS => ?_)
              rw [nx_cl (show ((31 * (1 + (nI i1))) + 12) + (nI (i2 + 1)) = nI (((31 * (1 + (i1))) + 12) + ((i2 + 1))) from by show ((nI 31 * (nI 1 + (nI i1))) + nI 12) + (nI (i2 + 1)) = _; simp only [nI_add, pk_mul]) (by omega)] at hP hD
              replace hP : va_P (dC, dI) vwCl (wM h a cI cB cZ F (va_up M 46 (upd (L_lay3 F M p0 i1 (upd (upd (L_lay2 F M p0 i1) (1 + (i1)) 0) ((31 * (18 + (i1))) + 30) (((M 42) i1) - 1)) i2) (((31 * (1 + (i1))) + 12) + ((i2 + 1))) 0))) H := hP
              replace hD : va_D A (wM h a cI cB cZ F (va_up M 46 (upd (L_lay3 F M p0 i1 (upd (upd (L_lay2 F M p0 i1) (1 + (i1)) 0) ((31 * (18 + (i1))) + 30) (((M 42) i1) - 1)) i2) (((31 * (1 + (i1))) + 12) + ((i2 + 1))) 0))) := hD
              refine lv_aload_n hx hb dX11_layRoom_145 rfl (lv_at hl 3 rfl) ?_
              refine va_get (D := (dC, dI)) (ci := 10) (v := .ref (a 46)) (C := RX11) (T := TX11) (N := 49) hx hb hts hin hown hK hP 0 rfl rfl 46 (by decide) (hts (.fieldLink RX11 120 "SocietyBookModel" "room" "[I") (by decide +kernel)) (fun _ h9 => h9) rfl dX11_layRoom_146 ?_
              refine lv_bipush (v := 31) hx hb dX11_layRoom_149 (by decide) ?_
              refine lv_bipush (v := 12) hx hb dX11_layRoom_151 (by decide) ?_
              refine lv_iload_n hx hb dX11_layRoom_153 rfl (lv_at hl 1 rfl) ?_
              refine lv_iadd hx hb dX11_layRoom_154 ?_
              refine lv_imul hx hb dX11_layRoom_155 ?_
              refine lv_bipush (v := 18) hx hb dX11_layRoom_156 (by decide) ?_
              refine lv_iadd hx hb dX11_layRoom_158 ?_
              refine lv_iload_n hx hb dX11_layRoom_159 rfl (lv_at hl 2 rfl) ?_
              refine lv_iadd hx hb dX11_layRoom_160 ?_
              refine lv_iload hx hb dX11_layRoom_161 (lv_at hl 0 rfl) ?_
              refine lv_if_eq (tgt := 184) hx hb dX11_layRoom_163 (by decide) (fun _ => ?_) (fun c => absurd (bo_t c) c10)
              refine lv_iconst (v := 0) hx hb dX11_layRoom_184 (by decide) ?_
              refine va_iast (f := upd (L_lay3 F M p0 i1 (upd (upd (L_lay2 F M p0 i1) (1 + (i1)) 0) ((31 * (18 + (i1))) + 30) (((M 42) i1) - 1)) i2) (((31 * (1 + (i1))) + 12) + ((i2 + 1))) 0) hx hb hK hP hD hS 37 0 rfl rfl (nx_in (show ((31 * (12 + (nI (i2 + 1)))) + 18) + (nI i1) = nI (((31 * (12 + ((i2 + 1)))) + 18) + (i1)) from by show ((nI 31 * (nI 12 + (nI (i2 + 1)))) + nI 18) + (nI i1) = _; simp only [nI_add, pk_mul]) (by omega) (by decide)) dX11_layRoom_185 (fun H locs hP hD hS => ?_)
              rw [nx_cl (show ((31 * (12 + (nI (i2 + 1)))) + 18) + (nI i1) = nI (((31 * (12 + ((i2 + 1)))) + 18) + (i1)) from by show ((nI 31 * (nI 12 + (nI (i2 + 1)))) + nI 18) + (nI i1) = _; simp only [nI_add, pk_mul]) (by omega)] at hP hD
              replace hP : va_P (dC, dI) vwCl (wM h a cI cB cZ F (va_up M 46 (upd (upd (L_lay3 F M p0 i1 (upd (upd (L_lay2 F M p0 i1) (1 + (i1)) 0) ((31 * (18 + (i1))) + 30) (((M 42) i1) - 1)) i2) (((31 * (1 + (i1))) + 12) + ((i2 + 1))) 0) (((31 * (12 + ((i2 + 1)))) + 18) + (i1)) 0))) H := hP
              replace hD : va_D A (wM h a cI cB cZ F (va_up M 46 (upd (upd (L_lay3 F M p0 i1 (upd (upd (L_lay2 F M p0 i1) (1 + (i1)) 0) ((31 * (18 + (i1))) + 30) (((M 42) i1) - 1)) i2) (((31 * (1 + (i1))) + 12) + ((i2 + 1))) 0) (((31 * (12 + ((i2 + 1)))) + 18) + (i1)) 0))) := hD
              refine lv_iinc (v := nI ((i2 + 1) + 1)) (lv' := [(3, .int (nI ((i2 + 1) + 1))), (4, .int (if ((p0 >>> ((nI (i2 + 1)) &&& 31)) &&& 1) = 1 then (1 : Int32) else 0)), (2, .int (nI i1)), (0, .ref h), (1, .int p0)]) hx hb dX11_layRoom_186 hl (k := 1) rfl (nI_1 (i2 + 1)) (by decide) rfl (fun ls hl => ?_)
              refine lv_goto (tgt := 91) hx hb dX11_layRoom_189 (by decide) ?_
              have e9 : L_lay3 F M p0 i1 (upd (upd (L_lay2 F M p0 i1) (1 + (i1)) 0) ((31 * (18 + (i1))) + 30) (((M 42) i1) - 1)) (i2 + 1) = upd (upd (L_lay3 F M p0 i1 (upd (upd (L_lay2 F M p0 i1) (1 + (i1)) 0) ((31 * (18 + (i1))) + 30) (((M 42) i1) - 1)) i2) (((31 * (1 + (i1))) + 12) + ((i2 + 1))) 0) (((31 * (12 + ((i2 + 1)))) + 18) + (i1)) 0 := by rw [L_lay3]; rw [if_neg c10]
              refine kk2 ls H locs (show lv_has ls 5 [(3, .int (nI ((i2 + 1) + 1))), (2, .int (nI i1)), (0, .ref h), (1, .int p0)] from ?_) (show va_P (dC, dI) vwCl (wM h a cI cB cZ F (va_up M 46 (L_lay3 F M p0 i1 (upd (upd (L_lay2 F M p0 i1) (1 + (i1)) 0) ((31 * (18 + (i1))) + 30) (((M 42) i1) - 1)) (i2 + 1)))) H from ?_) (show va_D A (wM h a cI cB cZ F (va_up M 46 (L_lay3 F M p0 i1 (upd (upd (L_lay2 F M p0 i1) (1 + (i1)) 0) ((31 * (18 + (i1))) + 30) (((M 42) i1) - 1)) (i2 + 1)))) from ?_) hS
              · exact lv_sub hl [0, 2, 3, 4] rfl
              · rw [e9]; exact hP
              · rw [e9]; exact hD
            · replace c10 := bo_t c10
              refine lv_aload_n hx hb dX11_layRoom_124 rfl (lv_at hl 3 rfl) ?_
              refine va_get (D := (dC, dI)) (ci := 10) (v := .ref (a 42)) (C := RX11) (T := TX11) (N := 49) hx hb hts hin hown hK hP 0 rfl rfl 42 (by decide) (hts (.fieldLink RX11 107 "SocietyBookModel" "copies" "[I") (by decide +kernel)) (fun _ h9 => h9) rfl dX11_layRoom_125 ?_
              refine lv_bipush (v := 12) hx hb dX11_layRoom_128 (by decide) ?_
              refine lv_iload_n hx hb dX11_layRoom_130 rfl (lv_at hl 1 rfl) ?_
              refine lv_imul hx hb dX11_layRoom_131 ?_
              refine lv_iload_n hx hb dX11_layRoom_132 rfl (lv_at hl 2 rfl) ?_
              refine lv_iadd hx hb dX11_layRoom_133 ?_
              refine va_iald (f := M 42) hx hb hK hP 33 0 rfl rfl (nx_in (show (12 * (nI (i2 + 1))) + (nI i1) = nI ((12 * ((i2 + 1))) + (i1)) from by show (nI 12 * (nI (i2 + 1))) + (nI i1) = _; simp only [nI_add, pk_mul]) (by omega) (by decide)) dX11_layRoom_134 ?_
              rw [nx_cl (show (12 * (nI (i2 + 1))) + (nI i1) = nI ((12 * ((i2 + 1))) + (i1)) from by show (nI 12 * (nI (i2 + 1))) + (nI i1) = _; simp only [nI_add, pk_mul]) (by omega)]
              refine lv_iconst (v := 1) hx hb dX11_layRoom_135 (by decide) ?_
              refine lv_icmp_le (tgt := 143) hx hb dX11_layRoom_136 (by decide) (fun c12 => ?_) (fun c12 => ?_)
              · refine lv_iconst (v := 0) hx hb dX11_layRoom_143 (by decide) ?_
                refine va_iast (f := (L_lay3 F M p0 i1 (upd (upd (L_lay2 F M p0 i1) (1 + (i1)) 0) ((31 * (18 + (i1))) + 30) (((M 42) i1) - 1)) i2)) hx hb hK hP hD hS 37 0 rfl rfl (nx_in (show ((31 * (1 + (nI i1))) + 12) + (nI (i2 + 1)) = nI (((31 * (1 + (i1))) + 12) + ((i2 + 1))) from by show ((nI 31 * (nI 1 + (nI i1))) + nI 12) + (nI (i2 + 1)) = _; simp only [nI_add, pk_mul]) (by omega) (by decide)) dX11_layRoom_144 (fun H locs hP hD hS => ?_)
                rw [nx_cl (show ((31 * (1 + (nI i1))) + 12) + (nI (i2 + 1)) = nI (((31 * (1 + (i1))) + 12) + ((i2 + 1))) from by show ((nI 31 * (nI 1 + (nI i1))) + nI 12) + (nI (i2 + 1)) = _; simp only [nI_add, pk_mul]) (by omega)] at hP hD
                replace hP : va_P (dC, dI) vwCl (wM h a cI cB cZ F (va_up M 46 (upd (L_lay3 F M p0 i1 (upd (upd (L_lay2 F M p0 i1) (1 + (i1)) 0) ((31 * (18 + (i1))) + 30) (((M 42) i1) - 1)) i2) (((31 * (1 + (i1))) + 12) + ((i2 + 1))) 0))) H := hP
                replace hD : va_D A (wM h a cI cB cZ F (va_up M 46 (upd (L_lay3 F M p0 i1 (upd (upd (L_lay2 F M p0 i1) (1 + (i1)) 0) ((31 * (18 + (i1))) + 30) (((M 42) i1) - 1)) i2) (((31 * (1 + (i1))) + 12) + ((i2 + 1))) 0))) := hD
                refine lv_aload_n hx hb dX11_layRoom_145 rfl (lv_at hl 3 rfl) ?_
                refine va_get (D := (dC, dI)) (ci := 10) (v := .ref (a 46)) (C := RX11) (T := TX11) (N := 49) hx hb hts hin hown hK hP 0 rfl rfl 46 (by decide) (hts (.fieldLink RX11 120 "SocietyBookModel" "room" "[I") (by decide +kernel)) (fun _ h9 => h9) rfl dX11_layRoom_146 ?_
                refine lv_bipush (v := 31) hx hb dX11_layRoom_149 (by decide) ?_
                refine lv_bipush (v := 12) hx hb dX11_layRoom_151 (by decide) ?_
                refine lv_iload_n hx hb dX11_layRoom_153 rfl (lv_at hl 1 rfl) ?_
                refine lv_iadd hx hb dX11_layRoom_154 ?_
                refine lv_imul hx hb dX11_layRoom_155 ?_
                refine lv_bipush (v := 18) hx hb dX11_layRoom_156 (by decide) ?_
                refine lv_iadd hx hb dX11_layRoom_158 ?_
                refine lv_iload_n hx hb dX11_layRoom_159 rfl (lv_at hl 2 rfl) ?_
                refine lv_iadd hx hb dX11_layRoom_160 ?_
                refine lv_iload hx hb dX11_layRoom_161 (lv_at hl 0 rfl) ?_
                refine lv_if_eq (tgt := 184) hx hb dX11_layRoom_163 (by decide) (fun c => absurd c10 (bo_f c)) (fun _ => ?_)
                refine lv_aload_n hx hb dX11_layRoom_166 rfl (lv_at hl 3 rfl) ?_
                refine va_get (D := (dC, dI)) (ci := 10) (v := .ref (a 42)) (C := RX11) (T := TX11) (N := 49) hx hb hts hin hown hK hP 0 rfl rfl 42 (by decide) (hts (.fieldLink RX11 107 "SocietyBookModel" "copies" "[I") (by decide +kernel)) (fun _ h9 => h9) rfl dX11_layRoom_167 ?_
                refine lv_bipush (v := 12) hx hb dX11_layRoom_170 (by decide) ?_
                refine lv_iload_n hx hb dX11_layRoom_172 rfl (lv_at hl 1 rfl) ?_
                refine lv_imul hx hb dX11_layRoom_173 ?_
                refine lv_iload_n hx hb dX11_layRoom_174 rfl (lv_at hl 2 rfl) ?_
                refine lv_iadd hx hb dX11_layRoom_175 ?_
                refine va_iald (f := M 42) hx hb hK hP 33 0 rfl rfl (nx_in (show (12 * (nI (i2 + 1))) + (nI i1) = nI ((12 * ((i2 + 1))) + (i1)) from by show (nI 12 * (nI (i2 + 1))) + (nI i1) = _; simp only [nI_add, pk_mul]) (by omega) (by decide)) dX11_layRoom_176 ?_
                rw [nx_cl (show (12 * (nI (i2 + 1))) + (nI i1) = nI ((12 * ((i2 + 1))) + (i1)) from by show (nI 12 * (nI (i2 + 1))) + (nI i1) = _; simp only [nI_add, pk_mul]) (by omega)]
                refine lv_if_ne (tgt := 184) hx hb dX11_layRoom_177 (by decide) (fun c14 => ?_) (fun c14 => ?_)
                · refine lv_iconst (v := 0) hx hb dX11_layRoom_184 (by decide) ?_
                  refine va_iast (f := upd (L_lay3 F M p0 i1 (upd (upd (L_lay2 F M p0 i1) (1 + (i1)) 0) ((31 * (18 + (i1))) + 30) (((M 42) i1) - 1)) i2) (((31 * (1 + (i1))) + 12) + ((i2 + 1))) 0) hx hb hK hP hD hS 37 0 rfl rfl (nx_in (show ((31 * (12 + (nI (i2 + 1)))) + 18) + (nI i1) = nI (((31 * (12 + ((i2 + 1)))) + 18) + (i1)) from by show ((nI 31 * (nI 12 + (nI (i2 + 1)))) + nI 18) + (nI i1) = _; simp only [nI_add, pk_mul]) (by omega) (by decide)) dX11_layRoom_185 (fun H locs hP hD hS => ?_)
                  rw [nx_cl (show ((31 * (12 + (nI (i2 + 1)))) + 18) + (nI i1) = nI (((31 * (12 + ((i2 + 1)))) + 18) + (i1)) from by show ((nI 31 * (nI 12 + (nI (i2 + 1)))) + nI 18) + (nI i1) = _; simp only [nI_add, pk_mul]) (by omega)] at hP hD
                  replace hP : va_P (dC, dI) vwCl (wM h a cI cB cZ F (va_up M 46 (upd (upd (L_lay3 F M p0 i1 (upd (upd (L_lay2 F M p0 i1) (1 + (i1)) 0) ((31 * (18 + (i1))) + 30) (((M 42) i1) - 1)) i2) (((31 * (1 + (i1))) + 12) + ((i2 + 1))) 0) (((31 * (12 + ((i2 + 1)))) + 18) + (i1)) 0))) H := hP
                  replace hD : va_D A (wM h a cI cB cZ F (va_up M 46 (upd (upd (L_lay3 F M p0 i1 (upd (upd (L_lay2 F M p0 i1) (1 + (i1)) 0) ((31 * (18 + (i1))) + 30) (((M 42) i1) - 1)) i2) (((31 * (1 + (i1))) + 12) + ((i2 + 1))) 0) (((31 * (12 + ((i2 + 1)))) + 18) + (i1)) 0))) := hD
                  refine lv_iinc (v := nI ((i2 + 1) + 1)) (lv' := [(3, .int (nI ((i2 + 1) + 1))), (4, .int (if ((p0 >>> ((nI (i2 + 1)) &&& 31)) &&& 1) = 1 then (1 : Int32) else 0)), (2, .int (nI i1)), (0, .ref h), (1, .int p0)]) hx hb dX11_layRoom_186 hl (k := 1) rfl (nI_1 (i2 + 1)) (by decide) rfl (fun ls hl => ?_)
                  refine lv_goto (tgt := 91) hx hb dX11_layRoom_189 (by decide) ?_
                  have e9 : L_lay3 F M p0 i1 (upd (upd (L_lay2 F M p0 i1) (1 + (i1)) 0) ((31 * (18 + (i1))) + 30) (((M 42) i1) - 1)) (i2 + 1) = upd (upd (L_lay3 F M p0 i1 (upd (upd (L_lay2 F M p0 i1) (1 + (i1)) 0) ((31 * (18 + (i1))) + 30) (((M 42) i1) - 1)) i2) (((31 * (1 + (i1))) + 12) + ((i2 + 1))) 0) (((31 * (12 + ((i2 + 1)))) + 18) + (i1)) 0 := by rw [L_lay3]; rw [if_pos c10, if_pos c12, if_neg c14]
                  refine kk2 ls H locs (show lv_has ls 5 [(3, .int (nI ((i2 + 1) + 1))), (2, .int (nI i1)), (0, .ref h), (1, .int p0)] from ?_) (show va_P (dC, dI) vwCl (wM h a cI cB cZ F (va_up M 46 (L_lay3 F M p0 i1 (upd (upd (L_lay2 F M p0 i1) (1 + (i1)) 0) ((31 * (18 + (i1))) + 30) (((M 42) i1) - 1)) (i2 + 1)))) H from ?_) (show va_D A (wM h a cI cB cZ F (va_up M 46 (L_lay3 F M p0 i1 (upd (upd (L_lay2 F M p0 i1) (1 + (i1)) 0) ((31 * (18 + (i1))) + 30) (((M 42) i1) - 1)) (i2 + 1)))) from ?_) hS
                  · exact lv_sub hl [0, 2, 3, 4] rfl
                  · rw [e9]; exact hP
                  · rw [e9]; exact hD
                · refine lv_iconst (v := 1) hx hb dX11_layRoom_180 (by decide) ?_
                  refine lv_goto (tgt := 185) hx hb dX11_layRoom_181 (by decide) ?_
                  refine va_iast (f := upd (L_lay3 F M p0 i1 (upd (upd (L_lay2 F M p0 i1) (1 + (i1)) 0) ((31 * (18 + (i1))) + 30) (((M 42) i1) - 1)) i2) (((31 * (1 + (i1))) + 12) + ((i2 + 1))) 0) hx hb hK hP hD hS 37 0 rfl rfl (nx_in (show ((31 * (12 + (nI (i2 + 1)))) + 18) + (nI i1) = nI (((31 * (12 + ((i2 + 1)))) + 18) + (i1)) from by show ((nI 31 * (nI 12 + (nI (i2 + 1)))) + nI 18) + (nI i1) = _; simp only [nI_add, pk_mul]) (by omega) (by decide)) dX11_layRoom_185 (fun H locs hP hD hS => ?_)
                  rw [nx_cl (show ((31 * (12 + (nI (i2 + 1)))) + 18) + (nI i1) = nI (((31 * (12 + ((i2 + 1)))) + 18) + (i1)) from by show ((nI 31 * (nI 12 + (nI (i2 + 1)))) + nI 18) + (nI i1) = _; simp only [nI_add, pk_mul]) (by omega)] at hP hD
                  replace hP : va_P (dC, dI) vwCl (wM h a cI cB cZ F (va_up M 46 (upd (upd (L_lay3 F M p0 i1 (upd (upd (L_lay2 F M p0 i1) (1 + (i1)) 0) ((31 * (18 + (i1))) + 30) (((M 42) i1) - 1)) i2) (((31 * (1 + (i1))) + 12) + ((i2 + 1))) 0) (((31 * (12 + ((i2 + 1)))) + 18) + (i1)) 1))) H := hP
                  replace hD : va_D A (wM h a cI cB cZ F (va_up M 46 (upd (upd (L_lay3 F M p0 i1 (upd (upd (L_lay2 F M p0 i1) (1 + (i1)) 0) ((31 * (18 + (i1))) + 30) (((M 42) i1) - 1)) i2) (((31 * (1 + (i1))) + 12) + ((i2 + 1))) 0) (((31 * (12 + ((i2 + 1)))) + 18) + (i1)) 1))) := hD
                  refine lv_iinc (v := nI ((i2 + 1) + 1)) (lv' := [(3, .int (nI ((i2 + 1) + 1))), (4, .int (if ((p0 >>> ((nI (i2 + 1)) &&& 31)) &&& 1) = 1 then (1 : Int32) else 0)), (2, .int (nI i1)), (0, .ref h), (1, .int p0)]) hx hb dX11_layRoom_186 hl (k := 1) rfl (nI_1 (i2 + 1)) (by decide) rfl (fun ls hl => ?_)
                  refine lv_goto (tgt := 91) hx hb dX11_layRoom_189 (by decide) ?_
                  have e9 : L_lay3 F M p0 i1 (upd (upd (L_lay2 F M p0 i1) (1 + (i1)) 0) ((31 * (18 + (i1))) + 30) (((M 42) i1) - 1)) (i2 + 1) = upd (upd (L_lay3 F M p0 i1 (upd (upd (L_lay2 F M p0 i1) (1 + (i1)) 0) ((31 * (18 + (i1))) + 30) (((M 42) i1) - 1)) i2) (((31 * (1 + (i1))) + 12) + ((i2 + 1))) 0) (((31 * (12 + ((i2 + 1)))) + 18) + (i1)) 1 := by rw [L_lay3]; rw [if_pos c10, if_pos c12, if_pos c14]
                  refine kk2 ls H locs (show lv_has ls 5 [(3, .int (nI ((i2 + 1) + 1))), (2, .int (nI i1)), (0, .ref h), (1, .int p0)] from ?_) (show va_P (dC, dI) vwCl (wM h a cI cB cZ F (va_up M 46 (L_lay3 F M p0 i1 (upd (upd (L_lay2 F M p0 i1) (1 + (i1)) 0) ((31 * (18 + (i1))) + 30) (((M 42) i1) - 1)) (i2 + 1)))) H from ?_) (show va_D A (wM h a cI cB cZ F (va_up M 46 (L_lay3 F M p0 i1 (upd (upd (L_lay2 F M p0 i1) (1 + (i1)) 0) ((31 * (18 + (i1))) + 30) (((M 42) i1) - 1)) (i2 + 1)))) from ?_) hS
                  · exact lv_sub hl [0, 2, 3, 4] rfl
                  · rw [e9]; exact hP
                  · rw [e9]; exact hD
              · refine lv_iconst (v := 1) hx hb dX11_layRoom_139 (by decide) ?_
                refine lv_goto (tgt := 144) hx hb dX11_layRoom_140 (by decide) ?_
                refine va_iast (f := (L_lay3 F M p0 i1 (upd (upd (L_lay2 F M p0 i1) (1 + (i1)) 0) ((31 * (18 + (i1))) + 30) (((M 42) i1) - 1)) i2)) hx hb hK hP hD hS 37 0 rfl rfl (nx_in (show ((31 * (1 + (nI i1))) + 12) + (nI (i2 + 1)) = nI (((31 * (1 + (i1))) + 12) + ((i2 + 1))) from by show ((nI 31 * (nI 1 + (nI i1))) + nI 12) + (nI (i2 + 1)) = _; simp only [nI_add, pk_mul]) (by omega) (by decide)) dX11_layRoom_144 (fun H locs hP hD hS => ?_)
                rw [nx_cl (show ((31 * (1 + (nI i1))) + 12) + (nI (i2 + 1)) = nI (((31 * (1 + (i1))) + 12) + ((i2 + 1))) from by show ((nI 31 * (nI 1 + (nI i1))) + nI 12) + (nI (i2 + 1)) = _; simp only [nI_add, pk_mul]) (by omega)] at hP hD
                replace hP : va_P (dC, dI) vwCl (wM h a cI cB cZ F (va_up M 46 (upd (L_lay3 F M p0 i1 (upd (upd (L_lay2 F M p0 i1) (1 + (i1)) 0) ((31 * (18 + (i1))) + 30) (((M 42) i1) - 1)) i2) (((31 * (1 + (i1))) + 12) + ((i2 + 1))) 1))) H := hP
                replace hD : va_D A (wM h a cI cB cZ F (va_up M 46 (upd (L_lay3 F M p0 i1 (upd (upd (L_lay2 F M p0 i1) (1 + (i1)) 0) ((31 * (18 + (i1))) + 30) (((M 42) i1) - 1)) i2) (((31 * (1 + (i1))) + 12) + ((i2 + 1))) 1))) := hD
                refine lv_aload_n hx hb dX11_layRoom_145 rfl (lv_at hl 3 rfl) ?_
                refine va_get (D := (dC, dI)) (ci := 10) (v := .ref (a 46)) (C := RX11) (T := TX11) (N := 49) hx hb hts hin hown hK hP 0 rfl rfl 46 (by decide) (hts (.fieldLink RX11 120 "SocietyBookModel" "room" "[I") (by decide +kernel)) (fun _ h9 => h9) rfl dX11_layRoom_146 ?_
                refine lv_bipush (v := 31) hx hb dX11_layRoom_149 (by decide) ?_
                refine lv_bipush (v := 12) hx hb dX11_layRoom_151 (by decide) ?_
                refine lv_iload_n hx hb dX11_layRoom_153 rfl (lv_at hl 1 rfl) ?_
                refine lv_iadd hx hb dX11_layRoom_154 ?_
                refine lv_imul hx hb dX11_layRoom_155 ?_
                refine lv_bipush (v := 18) hx hb dX11_layRoom_156 (by decide) ?_
                refine lv_iadd hx hb dX11_layRoom_158 ?_
                refine lv_iload_n hx hb dX11_layRoom_159 rfl (lv_at hl 2 rfl) ?_
                refine lv_iadd hx hb dX11_layRoom_160 ?_
                refine lv_iload hx hb dX11_layRoom_161 (lv_at hl 0 rfl) ?_
                refine lv_if_eq (tgt := 184) hx hb dX11_layRoom_163 (by decide) (fun c => absurd c10 (bo_f c)) (fun _ => ?_)
                refine lv_aload_n hx hb dX11_layRoom_166 rfl (lv_at hl 3 rfl) ?_
                refine va_get (D := (dC, dI)) (ci := 10) (v := .ref (a 42)) (C := RX11) (T := TX11) (N := 49) hx hb hts hin hown hK hP 0 rfl rfl 42 (by decide) (hts (.fieldLink RX11 107 "SocietyBookModel" "copies" "[I") (by decide +kernel)) (fun _ h9 => h9) rfl dX11_layRoom_167 ?_
                refine lv_bipush (v := 12) hx hb dX11_layRoom_170 (by decide) ?_
                refine lv_iload_n hx hb dX11_layRoom_172 rfl (lv_at hl 1 rfl) ?_
                refine lv_imul hx hb dX11_layRoom_173 ?_
                refine lv_iload_n hx hb dX11_layRoom_174 rfl (lv_at hl 2 rfl) ?_
                refine lv_iadd hx hb dX11_layRoom_175 ?_
                refine va_iald (f := M 42) hx hb hK hP 33 0 rfl rfl (nx_in (show (12 * (nI (i2 + 1))) + (nI i1) = nI ((12 * ((i2 + 1))) + (i1)) from by show (nI 12 * (nI (i2 + 1))) + (nI i1) = _; simp only [nI_add, pk_mul]) (by omega) (by decide)) dX11_layRoom_176 ?_
                rw [nx_cl (show (12 * (nI (i2 + 1))) + (nI i1) = nI ((12 * ((i2 + 1))) + (i1)) from by show (nI 12 * (nI (i2 + 1))) + (nI i1) = _; simp only [nI_add, pk_mul]) (by omega)]
                refine lv_if_ne (tgt := 184) hx hb dX11_layRoom_177 (by decide) (fun c16 => ?_) (fun c16 => ?_)
                · refine lv_iconst (v := 0) hx hb dX11_layRoom_184 (by decide) ?_
                  refine va_iast (f := upd (L_lay3 F M p0 i1 (upd (upd (L_lay2 F M p0 i1) (1 + (i1)) 0) ((31 * (18 + (i1))) + 30) (((M 42) i1) - 1)) i2) (((31 * (1 + (i1))) + 12) + ((i2 + 1))) 1) hx hb hK hP hD hS 37 0 rfl rfl (nx_in (show ((31 * (12 + (nI (i2 + 1)))) + 18) + (nI i1) = nI (((31 * (12 + ((i2 + 1)))) + 18) + (i1)) from by show ((nI 31 * (nI 12 + (nI (i2 + 1)))) + nI 18) + (nI i1) = _; simp only [nI_add, pk_mul]) (by omega) (by decide)) dX11_layRoom_185 (fun H locs hP hD hS => ?_)
                  rw [nx_cl (show ((31 * (12 + (nI (i2 + 1)))) + 18) + (nI i1) = nI (((31 * (12 + ((i2 + 1)))) + 18) + (i1)) from by show ((nI 31 * (nI 12 + (nI (i2 + 1)))) + nI 18) + (nI i1) = _; simp only [nI_add, pk_mul]) (by omega)] at hP hD
                  replace hP : va_P (dC, dI) vwCl (wM h a cI cB cZ F (va_up M 46 (upd (upd (L_lay3 F M p0 i1 (upd (upd (L_lay2 F M p0 i1) (1 + (i1)) 0) ((31 * (18 + (i1))) + 30) (((M 42) i1) - 1)) i2) (((31 * (1 + (i1))) + 12) + ((i2 + 1))) 1) (((31 * (12 + ((i2 + 1)))) + 18) + (i1)) 0))) H := hP
                  replace hD : va_D A (wM h a cI cB cZ F (va_up M 46 (upd (upd (L_lay3 F M p0 i1 (upd (upd (L_lay2 F M p0 i1) (1 + (i1)) 0) ((31 * (18 + (i1))) + 30) (((M 42) i1) - 1)) i2) (((31 * (1 + (i1))) + 12) + ((i2 + 1))) 1) (((31 * (12 + ((i2 + 1)))) + 18) + (i1)) 0))) := hD
                  refine lv_iinc (v := nI ((i2 + 1) + 1)) (lv' := [(3, .int (nI ((i2 + 1) + 1))), (4, .int (if ((p0 >>> ((nI (i2 + 1)) &&& 31)) &&& 1) = 1 then (1 : Int32) else 0)), (2, .int (nI i1)), (0, .ref h), (1, .int p0)]) hx hb dX11_layRoom_186 hl (k := 1) rfl (nI_1 (i2 + 1)) (by decide) rfl (fun ls hl => ?_)
                  refine lv_goto (tgt := 91) hx hb dX11_layRoom_189 (by decide) ?_
                  have e9 : L_lay3 F M p0 i1 (upd (upd (L_lay2 F M p0 i1) (1 + (i1)) 0) ((31 * (18 + (i1))) + 30) (((M 42) i1) - 1)) (i2 + 1) = upd (upd (L_lay3 F M p0 i1 (upd (upd (L_lay2 F M p0 i1) (1 + (i1)) 0) ((31 * (18 + (i1))) + 30) (((M 42) i1) - 1)) i2) (((31 * (1 + (i1))) + 12) + ((i2 + 1))) 1) (((31 * (12 + ((i2 + 1)))) + 18) + (i1)) 0 := by rw [L_lay3]; rw [if_pos c10, if_neg c12, if_neg c16]
                  refine kk2 ls H locs (show lv_has ls 5 [(3, .int (nI ((i2 + 1) + 1))), (2, .int (nI i1)), (0, .ref h), (1, .int p0)] from ?_) (show va_P (dC, dI) vwCl (wM h a cI cB cZ F (va_up M 46 (L_lay3 F M p0 i1 (upd (upd (L_lay2 F M p0 i1) (1 + (i1)) 0) ((31 * (18 + (i1))) + 30) (((M 42) i1) - 1)) (i2 + 1)))) H from ?_) (show va_D A (wM h a cI cB cZ F (va_up M 46 (L_lay3 F M p0 i1 (upd (upd (L_lay2 F M p0 i1) (1 + (i1)) 0) ((31 * (18 + (i1))) + 30) (((M 42) i1) - 1)) (i2 + 1)))) from ?_) hS
                  · exact lv_sub hl [0, 2, 3, 4] rfl
                  · rw [e9]; exact hP
                  · rw [e9]; exact hD
                · refine lv_iconst (v := 1) hx hb dX11_layRoom_180 (by decide) ?_
                  refine lv_goto (tgt := 185) hx hb dX11_layRoom_181 (by decide) ?_
                  refine va_iast (f := upd (L_lay3 F M p0 i1 (upd (upd (L_lay2 F M p0 i1) (1 + (i1)) 0) ((31 * (18 + (i1))) + 30) (((M 42) i1) - 1)) i2) (((31 * (1 + (i1))) + 12) + ((i2 + 1))) 1) hx hb hK hP hD hS 37 0 rfl rfl (nx_in (show ((31 * (12 + (nI (i2 + 1)))) + 18) + (nI i1) = nI (((31 * (12 + ((i2 + 1)))) + 18) + (i1)) from by show ((nI 31 * (nI 12 + (nI (i2 + 1)))) + nI 18) + (nI i1) = _; simp only [nI_add, pk_mul]) (by omega) (by decide)) dX11_layRoom_185 (fun H locs hP hD hS => ?_)
                  rw [nx_cl (show ((31 * (12 + (nI (i2 + 1)))) + 18) + (nI i1) = nI (((31 * (12 + ((i2 + 1)))) + 18) + (i1)) from by show ((nI 31 * (nI 12 + (nI (i2 + 1)))) + nI 18) + (nI i1) = _; simp only [nI_add, pk_mul]) (by omega)] at hP hD
                  replace hP : va_P (dC, dI) vwCl (wM h a cI cB cZ F (va_up M 46 (upd (upd (L_lay3 F M p0 i1 (upd (upd (L_lay2 F M p0 i1) (1 + (i1)) 0) ((31 * (18 + (i1))) + 30) (((M 42) i1) - 1)) i2) (((31 * (1 + (i1))) + 12) + ((i2 + 1))) 1) (((31 * (12 + ((i2 + 1)))) + 18) + (i1)) 1))) H := hP
                  replace hD : va_D A (wM h a cI cB cZ F (va_up M 46 (upd (upd (L_lay3 F M p0 i1 (upd (upd (L_lay2 F M p0 i1) (1 + (i1)) 0) ((31 * (18 + (i1))) + 30) (((M 42) i1) - 1)) i2) (((31 * (1 + (i1))) + 12) + ((i2 + 1))) 1) (((31 * (12 + ((i2 + 1)))) + 18) + (i1)) 1))) := hD
                  refine lv_iinc (v := nI ((i2 + 1) + 1)) (lv' := [(3, .int (nI ((i2 + 1) + 1))), (4, .int (if ((p0 >>> ((nI (i2 + 1)) &&& 31)) &&& 1) = 1 then (1 : Int32) else 0)), (2, .int (nI i1)), (0, .ref h), (1, .int p0)]) hx hb dX11_layRoom_186 hl (k := 1) rfl (nI_1 (i2 + 1)) (by decide) rfl (fun ls hl => ?_)
                  refine lv_goto (tgt := 91) hx hb dX11_layRoom_189 (by decide) ?_
                  have e9 : L_lay3 F M p0 i1 (upd (upd (L_lay2 F M p0 i1) (1 + (i1)) 0) ((31 * (18 + (i1))) + 30) (((M 42) i1) - 1)) (i2 + 1) = upd (upd (L_lay3 F M p0 i1 (upd (upd (L_lay2 F M p0 i1) (1 + (i1)) 0) ((31 * (18 + (i1))) + 30) (((M 42) i1) - 1)) i2) (((31 * (1 + (i1))) + 12) + ((i2 + 1))) 1) (((31 * (12 + ((i2 + 1)))) + 18) + (i1)) 1 := by rw [L_lay3]; rw [if_pos c10, if_neg c12, if_pos c16]
                  refine kk2 ls H locs (show lv_has ls 5 [(3, .int (nI ((i2 + 1) + 1))), (2, .int (nI i1)), (0, .ref h), (1, .int p0)] from ?_) (show va_P (dC, dI) vwCl (wM h a cI cB cZ F (va_up M 46 (L_lay3 F M p0 i1 (upd (upd (L_lay2 F M p0 i1) (1 + (i1)) 0) ((31 * (18 + (i1))) + 30) (((M 42) i1) - 1)) (i2 + 1)))) H from ?_) (show va_D A (wM h a cI cB cZ F (va_up M 46 (L_lay3 F M p0 i1 (upd (upd (L_lay2 F M p0 i1) (1 + (i1)) 0) ((31 * (18 + (i1))) + 30) (((M 42) i1) - 1)) (i2 + 1)))) from ?_) hS
                  · exact lv_sub hl [0, 2, 3, 4] rfl
                  · rw [e9]; exact hP
                  · rw [e9]; exact hD
          · replace hl : lv_has ls 5 [(3, .int (nI (5 + 1))), (2, .int (nI i1)), (0, .ref h), (1, .int p0)] := hl
            replace hP : va_P (dC, dI) vwCl (wM h a cI cB cZ F (va_up M 46 (L_lay3 F M p0 i1 (upd (upd (L_lay2 F M p0 i1) (1 + (i1)) 0) ((31 * (18 + (i1))) + 30) (((M 42) i1) - 1)) 5))) H := hP
            replace hD : va_D A (wM h a cI cB cZ F (va_up M 46 (L_lay3 F M p0 i1 (upd (upd (L_lay2 F M p0 i1) (1 + (i1)) 0) ((31 * (18 + (i1))) + 30) (((M 42) i1) - 1)) 5))) := hD
            refine lv_iload_n hx hb dX11_layRoom_91 rfl (lv_at hl 0 rfl) ?_
            refine lv_bipush (v := 6) hx hb dX11_layRoom_92 (by decide) ?_
            refine lv_icmp_ge (tgt := 192) hx hb dX11_layRoom_94 (by decide) (fun _ => ?_) (fun c => absurd (lb_y (N := 6) (by decide)) c)
            refine lv_iinc (v := nI (i1 + 1)) (lv' := [(2, .int (nI (i1 + 1))), (3, .int (nI (5 + 1))), (0, .ref h), (1, .int p0)]) hx hb dX11_layRoom_192 hl (k := 1) rfl (nI_1 i1) (by decide) rfl (fun ls hl => ?_)
            refine lv_goto (tgt := 24) hx hb dX11_layRoom_195 (by decide) ?_
            have e9 : L_lay2 F M p0 (i1 + 1) = (L_lay3 F M p0 i1 (upd (upd (L_lay2 F M p0 i1) (1 + (i1)) 0) ((31 * (18 + (i1))) + 30) (((M 42) i1) - 1)) 5) := by rw [L_lay2]; rw [if_neg c1, if_neg c2]
            refine kk1 ls H locs (show lv_has ls 5 [(2, .int (nI (i1 + 1))), (0, .ref h), (1, .int p0)] from ?_) (show va_P (dC, dI) vwCl (wM h a cI cB cZ F (va_up M 46 (L_lay2 F M p0 (i1 + 1)))) H from ?_) (show va_D A (wM h a cI cB cZ F (va_up M 46 (L_lay2 F M p0 (i1 + 1)))) from ?_) hS
            · exact lv_sub hl [0, 2, 3] rfl
            · rw [e9]; exact hP
            · rw [e9]; exact hD
      · refine lv_iconst (v := 1) hx hb dX11_layRoom_46 (by decide) ?_
        refine lv_goto (tgt := 51) hx hb dX11_layRoom_47 (by decide) ?_
        refine va_iast (f := (L_lay2 F M p0 i1)) hx hb hK hP hD hS 37 0 rfl rfl (nx_in (show 1 + (nI i1) = nI (1 + (i1)) from by show nI 1 + (nI i1) = _; simp only [nI_add, pk_mul]) (by omega) (by decide)) dX11_layRoom_51 (fun H locs hP hD hS => ?_)
        rw [nx_cl (show 1 + (nI i1) = nI (1 + (i1)) from by show nI 1 + (nI i1) = _; simp only [nI_add, pk_mul]) (by omega)] at hP hD
        replace hP : va_P (dC, dI) vwCl (wM h a cI cB cZ F (va_up M 46 (upd (L_lay2 F M p0 i1) (1 + (i1)) 1))) H := hP
        replace hD : va_D A (wM h a cI cB cZ F (va_up M 46 (upd (L_lay2 F M p0 i1) (1 + (i1)) 1))) := hD
        refine lv_aload_n hx hb dX11_layRoom_52 rfl (lv_at hl 1 rfl) ?_
        refine va_get (D := (dC, dI)) (ci := 10) (v := .ref (a 46)) (C := RX11) (T := TX11) (N := 49) hx hb hts hin hown hK hP 0 rfl rfl 46 (by decide) (hts (.fieldLink RX11 120 "SocietyBookModel" "room" "[I") (by decide +kernel)) (fun _ h9 => h9) rfl dX11_layRoom_53 ?_
        refine lv_bipush (v := 31) hx hb dX11_layRoom_56 (by decide) ?_
        refine lv_bipush (v := 18) hx hb dX11_layRoom_58 (by decide) ?_
        refine lv_iload_n hx hb dX11_layRoom_60 rfl (lv_at hl 0 rfl) ?_
        refine lv_iadd hx hb dX11_layRoom_61 ?_
        refine lv_imul hx hb dX11_layRoom_62 ?_
        refine lv_bipush (v := 30) hx hb dX11_layRoom_63 (by decide) ?_
        refine lv_iadd hx hb dX11_layRoom_65 ?_
        refine lv_aload_n hx hb dX11_layRoom_66 rfl (lv_at hl 1 rfl) ?_
        refine va_get (D := (dC, dI)) (ci := 10) (v := .ref (a 42)) (C := RX11) (T := TX11) (N := 49) hx hb hts hin hown hK hP 0 rfl rfl 42 (by decide) (hts (.fieldLink RX11 107 "SocietyBookModel" "copies" "[I") (by decide +kernel)) (fun _ h9 => h9) rfl dX11_layRoom_67 ?_
        refine lv_iload_n hx hb dX11_layRoom_70 rfl (lv_at hl 0 rfl) ?_
        refine va_iald (f := M 42) hx hb hK hP 33 0 rfl rfl (vp_in_nI (show i1 < 72 by omega) (by decide)) dX11_layRoom_71 ?_
        rw [nI_clamp (show i1 < 2 ^ 31 by omega)]
        refine lv_iconst (v := 1) hx hb dX11_layRoom_72 (by decide) ?_
        refine lv_icmp_le (tgt := 87) hx hb dX11_layRoom_73 (by decide) (fun c17 => ?_) (fun c17 => ?_)
        · refine lv_iconst (v := 0) hx hb dX11_layRoom_87 (by decide) ?_
          refine va_iast (f := upd (L_lay2 F M p0 i1) (1 + (i1)) 1) hx hb hK hP hD hS 37 0 rfl rfl (nx_in (show (31 * (18 + (nI i1))) + 30 = nI ((31 * (18 + (i1))) + 30) from by show (nI 31 * (nI 18 + (nI i1))) + nI 30 = _; simp only [nI_add, pk_mul]) (by omega) (by decide)) dX11_layRoom_88 (fun H locs hP hD hS => ?_)
          rw [nx_cl (show (31 * (18 + (nI i1))) + 30 = nI ((31 * (18 + (i1))) + 30) from by show (nI 31 * (nI 18 + (nI i1))) + nI 30 = _; simp only [nI_add, pk_mul]) (by omega)] at hP hD
          replace hP : va_P (dC, dI) vwCl (wM h a cI cB cZ F (va_up M 46 (upd (upd (L_lay2 F M p0 i1) (1 + (i1)) 1) ((31 * (18 + (i1))) + 30) 0))) H := hP
          replace hD : va_D A (wM h a cI cB cZ F (va_up M 46 (upd (upd (L_lay2 F M p0 i1) (1 + (i1)) 1) ((31 * (18 + (i1))) + 30) 0))) := hD
          refine lv_iconst (v := 1) hx hb dX11_layRoom_89 (by decide) ?_
          refine lv_istore_n (lv' := [(3, .int 1), (2, .int (nI i1)), (0, .ref h), (1, .int p0)]) hx hb dX11_layRoom_90 rfl hl (by decide) rfl (fun ls hl => ?_)
          refine lp_forH (N := 5) (lv := fun i2 => [(3, .int (nI (i2 + 1))), (2, .int (nI i1)), (0, .ref h), (1, .int p0)]) (wd := fun i2 => wM h a cI cB cZ F (va_up M 46 (L_lay3 F M p0 i1 (upd (upd (L_lay2 F M p0 i1) (1 + (i1)) 1) ((31 * (18 + (i1))) + 30) 0) i2))) hP hD hS (lv_sub hl [0, 1, 2, 3] rfl) (fun i2 hi2 ls H locs hl hP hD hS kk2 => ?_) (fun ls H locs hl hP hD hS => ?_)
          · replace hl : lv_has ls 5 [(3, .int (nI (i2 + 1))), (2, .int (nI i1)), (0, .ref h), (1, .int p0)] := hl
            replace hP : va_P (dC, dI) vwCl (wM h a cI cB cZ F (va_up M 46 (L_lay3 F M p0 i1 (upd (upd (L_lay2 F M p0 i1) (1 + (i1)) 1) ((31 * (18 + (i1))) + 30) 0) i2))) H := hP
            replace hD : va_D A (wM h a cI cB cZ F (va_up M 46 (L_lay3 F M p0 i1 (upd (upd (L_lay2 F M p0 i1) (1 + (i1)) 1) ((31 * (18 + (i1))) + 30) 0) i2))) := hD
            refine lv_iload_n hx hb dX11_layRoom_91 rfl (lv_at hl 0 rfl) ?_
            refine lv_bipush (v := 6) hx hb dX11_layRoom_92 (by decide) ?_
            refine lv_icmp_ge (tgt := 192) hx hb dX11_layRoom_94 (by decide) (fun c => absurd c (lb_n (N := 6) (by decide) (show i2 + 1 < 6 by omega))) (fun _ => ?_)
            refine lv_iload_n hx hb dX11_layRoom_97 rfl (lv_at hl 3 rfl) ?_
            refine lv_iload_n hx hb dX11_layRoom_98 rfl (lv_at hl 0 rfl) ?_
            refine vp_callSi (W.runS (As := [.int p0, .int (nI (i2 + 1))]) (rest := []) ⟨hx, hb, hml, hown, hts⟩ (c_X11_has l p0 (nI (i2 + 1))) (va_cwS 2 hts gX11_layRoom_X11_has rfl rfl rfl (by decide +kernel) ⟨Nat.le_of_ble_eq_true rfl, Nat.le_of_ble_eq_true rfl⟩) ⟨fun _ _ _ _ q => q, fun U hU hW => ⟨rfl, trivial⟩⟩ rfl rfl hl.1 rfl (lv_room (Nat.le_of_ble_eq_true rfl)) dX11_layRoom_99 ⟨Nat.zero_le _, Nat.zero_le _⟩) (fun r hr9 => ?_)
            subst hr9
            refine lv_istore (lv' := [(4, .int (if ((p0 >>> ((nI (i2 + 1)) &&& 31)) &&& 1) = 1 then (1 : Int32) else 0)), (3, .int (nI (i2 + 1))), (2, .int (nI i1)), (0, .ref h), (1, .int p0)]) hx hb dX11_layRoom_102 hl (by decide) rfl (fun ls hl => ?_)
            refine lv_aload_n hx hb dX11_layRoom_104 rfl (lv_at hl 3 rfl) ?_
            refine va_get (D := (dC, dI)) (ci := 10) (v := .ref (a 46)) (C := RX11) (T := TX11) (N := 49) hx hb hts hin hown hK hP 0 rfl rfl 46 (by decide) (hts (.fieldLink RX11 120 "SocietyBookModel" "room" "[I") (by decide +kernel)) (fun _ h9 => h9) rfl dX11_layRoom_105 ?_
            refine lv_bipush (v := 31) hx hb dX11_layRoom_108 (by decide) ?_
            refine lv_iconst (v := 1) hx hb dX11_layRoom_110 (by decide) ?_
            refine lv_iload_n hx hb dX11_layRoom_111 rfl (lv_at hl 2 rfl) ?_
            refine lv_iadd hx hb dX11_layRoom_112 ?_
            refine lv_imul hx hb dX11_layRoom_113 ?_
            refine lv_bipush (v := 12) hx hb dX11_layRoom_114 (by decide) ?_
            refine lv_iadd hx hb dX11_layRoom_116 ?_
            refine lv_iload_n hx hb dX11_layRoom_117 rfl (lv_at hl 1 rfl) ?_
            refine lv_iadd hx hb dX11_layRoom_118 ?_
            refine lv_iload hx hb dX11_layRoom_119 (lv_at hl 0 rfl) ?_
            refine lv_if_eq (tgt := 143) hx hb dX11_layRoom_121 (by decide) (fun c18 => ?_) (fun c18 => ?_)
            · replace c18 := bo_f c18
              refine lv_iconst (v := 0) hx hb dX11_layRoom_143 (by decide) ?_
              refine va_iast (f := (L_lay3 F M p0 i1 (upd (upd (L_lay2 F M p0 i1) (1 + (i1)) 1) ((31 * (18 + (i1))) + 30) 0) i2)) hx hb hK hP hD hS 37 0 rfl rfl (nx_in (show ((31 * (1 + (nI i1))) + 12) + (nI (i2 + 1)) = nI (((31 * (1 + (i1))) + 12) + ((i2 + 1))) from by show ((nI 31 * (nI 1 + (nI i1))) + nI 12) + (nI (i2 + 1)) = _; simp only [nI_add, pk_mul]) (by omega) (by decide)) dX11_layRoom_144 (fun H locs hP hD hS => ?_)
              rw [nx_cl (show ((31 * (1 + (nI i1))) + 12) + (nI (i2 + 1)) = nI (((31 * (1 + (i1))) + 12) + ((i2 + 1))) from by show ((nI 31 * (nI 1 + (nI i1))) + nI 12) + (nI (i2 + 1)) = _; simp only [nI_add, pk_mul]) (by omega)] at hP hD
              replace hP : va_P (dC, dI) vwCl (wM h a cI cB cZ F (va_up M 46 (upd (L_lay3 F M p0 i1 (upd (upd (L_lay2 F M p0 i1) (1 + (i1)) 1) ((31 * (18 + (i1))) + 30) 0) i2) (((31 * (1 + (i1))) + 12) + ((i2 + 1))) 0))) H := hP
              replace hD : va_D A (wM h a cI cB cZ F (va_up M 46 (upd (L_lay3 F M p0 i1 (upd (upd (L_lay2 F M p0 i1) (1 + (i1)) 1) ((31 * (18 + (i1))) + 30) 0) i2) (((31 * (1 + (i1))) + 12) + ((i2 + 1))) 0))) := hD
              refine lv_aload_n hx hb dX11_layRoom_145 rfl (lv_at hl 3 rfl) ?_
              refine va_get (D := (dC, dI)) (ci := 10) (v := .ref (a 46)) (C := RX11) (T := TX11) (N := 49) hx hb hts hin hown hK hP 0 rfl rfl 46 (by decide) (hts (.fieldLink RX11 120 "SocietyBookModel" "room" "[I") (by decide +kernel)) (fun _ h9 => h9) rfl dX11_layRoom_146 ?_
              refine lv_bipush (v := 31) hx hb dX11_layRoom_149 (by decide) ?_
              refine lv_bipush (v := 12) hx hb dX11_layRoom_151 (by decide) ?_
              refine lv_iload_n hx hb dX11_layRoom_153 rfl (lv_at hl 1 rfl) ?_
              refine lv_iadd hx hb dX11_layRoom_154 ?_
              refine lv_imul hx hb dX11_layRoom_155 ?_
              refine lv_bipush (v := 18) hx hb dX11_layRoom_156 (by decide) ?_
              refine lv_iadd hx hb dX11_layRoom_158 ?_
              refine lv_iload_n hx hb dX11_layRoom_159 rfl (lv_at hl 2 rfl) ?_
              refine lv_iadd hx hb dX11_layRoom_160 ?_
              refine lv_iload hx hb dX11_layRoom_161 (lv_at hl 0 rfl) ?_
              refine lv_if_eq (tgt := 184) hx hb dX11_layRoom_163 (by decide) (fun _ => ?_) (fun c => absurd (bo_t c) c18)
              refine lv_iconst (v := 0) hx hb dX11_layRoom_184 (by decide) ?_
              refine va_iast (f := upd (L_lay3 F M p0 i1 (upd (upd (L_lay2 F M p0 i1) (1 + (i1)) 1) ((31 * (18 + (i1))) + 30) 0) i2) (((31 * (1 + (i1))) + 12) + ((i2 + 1))) 0) hx hb hK hP hD hS 37 0 rfl rfl (nx_in (show ((31 * (12 + (nI (i2 + 1)))) + 18) + (nI i1) = nI (((31 * (12 + ((i2 + 1)))) + 18) + (i1)) from by show ((nI 31 * (nI 12 + (nI (i2 + 1)))) + nI 18) + (nI i1) = _; simp only [nI_add, pk_mul]) (by omega) (by decide)) dX11_layRoom_185 (fun H locs hP hD hS => ?_)
              rw [nx_cl (show ((31 * (12 + (nI (i2 + 1)))) + 18) + (nI i1) = nI (((31 * (12 + ((i2 + 1)))) + 18) + (i1)) from by show ((nI 31 * (nI 12 + (nI (i2 + 1)))) + nI 18) + (nI i1) = _; simp only [nI_add, pk_mul]) (by omega)] at hP hD
              replace hP : va_P (dC, dI) vwCl (wM h a cI cB cZ F (va_up M 46 (upd (upd (L_lay3 F M p0 i1 (upd (upd (L_lay2 F M p0 i1) (1 + (i1)) 1) ((31 * (18 + (i1))) + 30) 0) i2) (((31 * (1 + (i1))) + 12) + ((i2 + 1))) 0) (((31 * (12 + ((i2 + 1)))) + 18) + (i1)) 0))) H := hP
              replace hD : va_D A (wM h a cI cB cZ F (va_up M 46 (upd (upd (L_lay3 F M p0 i1 (upd (upd (L_lay2 F M p0 i1) (1 + (i1)) 1) ((31 * (18 + (i1))) + 30) 0) i2) (((31 * (1 + (i1))) + 12) + ((i2 + 1))) 0) (((31 * (12 + ((i2 + 1)))) + 18) + (i1)) 0))) := hD
              refine lv_iinc (v := nI ((i2 + 1) + 1)) (lv' := [(3, .int (nI ((i2 + 1) + 1))), (4, .int (if ((p0 >>> ((nI (i2 + 1)) &&& 31)) &&& 1) = 1 then (1 : Int32) else 0)), (2, .int (nI i1)), (0, .ref h), (1, .int p0)]) hx hb dX11_layRoom_186 hl (k := 1) rfl (nI_1 (i2 + 1)) (by decide) rfl (fun ls hl => ?_)
              refine lv_goto (tgt := 91) hx hb dX11_layRoom_189 (by decide) ?_
              have e9 : L_lay3 F M p0 i1 (upd (upd (L_lay2 F M p0 i1) (1 + (i1)) 1) ((31 * (18 + (i1))) + 30) 0) (i2 + 1) = upd (upd (L_lay3 F M p0 i1 (upd (upd (L_lay2 F M p0 i1) (1 + (i1)) 1) ((31 * (18 + (i1))) + 30) 0) i2) (((31 * (1 + (i1))) + 12) + ((i2 + 1))) 0) (((31 * (12 + ((i2 + 1)))) + 18) + (i1)) 0 := by rw [L_lay3]; rw [if_neg c18]
              refine kk2 ls H locs (show lv_has ls 5 [(3, .int (nI ((i2 + 1) + 1))), (2, .int (nI i1)), (0, .ref h), (1, .int p0)] from ?_) (show va_P (dC, dI) vwCl (wM h a cI cB cZ F (va_up M 46 (L_lay3 F M p0 i1 (upd (upd (L_lay2 F M p0 i1) (1 + (i1)) 1) ((31 * (18 + (i1))) + 30) 0) (i2 + 1)))) H from ?_) (show va_D A (wM h a cI cB cZ F (va_up M 46 (L_lay3 F M p0 i1 (upd (upd (L_lay2 F M p0 i1) (1 + (i1)) 1) ((31 * (18 + (i1))) + 30) 0) (i2 + 1)))) from ?_) hS
              · exact lv_sub hl [0, 2, 3, 4] rfl
              · rw [e9]; exact hP
              · rw [e9]; exact hD
            · replace c18 := bo_t c18
              refine lv_aload_n hx hb dX11_layRoom_124 rfl (lv_at hl 3 rfl) ?_
              refine va_get (D := (dC, dI)) (ci := 10) (v := .ref (a 42)) (C := RX11) (T := TX11) (N := 49) hx hb hts hin hown hK hP 0 rfl rfl 42 (by decide) (hts (.fieldLink RX11 107 "SocietyBookModel" "copies" "[I") (by decide +kernel)) (fun _ h9 => h9) rfl dX11_layRoom_125 ?_
              refine lv_bipush (v := 12) hx hb dX11_layRoom_128 (by decide) ?_
              refine lv_iload_n hx hb dX11_layRoom_130 rfl (lv_at hl 1 rfl) ?_
              refine lv_imul hx hb dX11_layRoom_131 ?_
              refine lv_iload_n hx hb dX11_layRoom_132 rfl (lv_at hl 2 rfl) ?_
              refine lv_iadd hx hb dX11_layRoom_133 ?_
              refine va_iald (f := M 42) hx hb hK hP 33 0 rfl rfl (nx_in (show (12 * (nI (i2 + 1))) + (nI i1) = nI ((12 * ((i2 + 1))) + (i1)) from by show (nI 12 * (nI (i2 + 1))) + (nI i1) = _; simp only [nI_add, pk_mul]) (by omega) (by decide)) dX11_layRoom_134 ?_
              rw [nx_cl (show (12 * (nI (i2 + 1))) + (nI i1) = nI ((12 * ((i2 + 1))) + (i1)) from by show (nI 12 * (nI (i2 + 1))) + (nI i1) = _; simp only [nI_add, pk_mul]) (by omega)]
              refine lv_iconst (v := 1) hx hb dX11_layRoom_135 (by decide) ?_
              refine lv_icmp_le (tgt := 143) hx hb dX11_layRoom_136 (by decide) (fun c20 => ?_) (fun c20 => ?_)
              · refine lv_iconst (v := 0) hx hb dX11_layRoom_143 (by decide) ?_
                refine va_iast (f := (L_lay3 F M p0 i1 (upd (upd (L_lay2 F M p0 i1) (1 + (i1)) 1) ((31 * (18 + (i1))) + 30) 0) i2)) hx hb hK hP hD hS 37 0 rfl rfl (nx_in (show ((31 * (1 + (nI i1))) + 12) + (nI (i2 + 1)) = nI (((31 * (1 + (i1))) + 12) + ((i2 + 1))) from by show ((nI 31 * (nI 1 + (nI i1))) + nI 12) + (nI (i2 + 1)) = _; simp only [nI_add, pk_mul]) (by omega) (by decide)) dX11_layRoom_144 (fun H locs hP hD hS => ?_)
                rw [nx_cl (show ((31 * (1 + (nI i1))) + 12) + (nI (i2 + 1)) = nI (((31 * (1 + (i1))) + 12) + ((i2 + 1))) from by show ((nI 31 * (nI 1 + (nI i1))) + nI 12) + (nI (i2 + 1)) = _; simp only [nI_add, pk_mul]) (by omega)] at hP hD
                replace hP : va_P (dC, dI) vwCl (wM h a cI cB cZ F (va_up M 46 (upd (L_lay3 F M p0 i1 (upd (upd (L_lay2 F M p0 i1) (1 + (i1)) 1) ((31 * (18 + (i1))) + 30) 0) i2) (((31 * (1 + (i1))) + 12) + ((i2 + 1))) 0))) H := hP
                replace hD : va_D A (wM h a cI cB cZ F (va_up M 46 (upd (L_lay3 F M p0 i1 (upd (upd (L_lay2 F M p0 i1) (1 + (i1)) 1) ((31 * (18 + (i1))) + 30) 0) i2) (((31 * (1 + (i1))) + 12) + ((i2 + 1))) 0))) := hD
                refine lv_aload_n hx hb dX11_layRoom_145 rfl (lv_at hl 3 rfl) ?_
                refine va_get (D := (dC, dI)) (ci := 10) (v := .ref (a 46)) (C := RX11) (T := TX11) (N := 49) hx hb hts hin hown hK hP 0 rfl rfl 46 (by decide) (hts (.fieldLink RX11 120 "SocietyBookModel" "room" "[I") (by decide +kernel)) (fun _ h9 => h9) rfl dX11_layRoom_146 ?_
                refine lv_bipush (v := 31) hx hb dX11_layRoom_149 (by decide) ?_
                refine lv_bipush (v := 12) hx hb dX11_layRoom_151 (by decide) ?_
                refine lv_iload_n hx hb dX11_layRoom_153 rfl (lv_at hl 1 rfl) ?_
                refine lv_iadd hx hb dX11_layRoom_154 ?_
                refine lv_imul hx hb dX11_layRoom_155 ?_
                refine lv_bipush (v := 18) hx hb dX11_layRoom_156 (by decide) ?_
                refine lv_iadd hx hb dX11_layRoom_158 ?_
                refine lv_iload_n hx hb dX11_layRoom_159 rfl (lv_at hl 2 rfl) ?_
                refine lv_iadd hx hb dX11_layRoom_160 ?_
                refine lv_iload hx hb dX11_layRoom_161 (lv_at hl 0 rfl) ?_
                refine lv_if_eq (tgt := 184) hx hb dX11_layRoom_163 (by decide) (fun c => absurd c18 (bo_f c)) (fun _ => ?_)
                refine lv_aload_n hx hb dX11_layRoom_166 rfl (lv_at hl 3 rfl) ?_
                refine va_get (D := (dC, dI)) (ci := 10) (v := .ref (a 42)) (C := RX11) (T := TX11) (N := 49) hx hb hts hin hown hK hP 0 rfl rfl 42 (by decide) (hts (.fieldLink RX11 107 "SocietyBookModel" "copies" "[I") (by decide +kernel)) (fun _ h9 => h9) rfl dX11_layRoom_167 ?_
                refine lv_bipush (v := 12) hx hb dX11_layRoom_170 (by decide) ?_
                refine lv_iload_n hx hb dX11_layRoom_172 rfl (lv_at hl 1 rfl) ?_
                refine lv_imul hx hb dX11_layRoom_173 ?_
                refine lv_iload_n hx hb dX11_layRoom_174 rfl (lv_at hl 2 rfl) ?_
                refine lv_iadd hx hb dX11_layRoom_175 ?_
                refine va_iald (f := M 42) hx hb hK hP 33 0 rfl rfl (nx_in (show (12 * (nI (i2 + 1))) + (nI i1) = nI ((12 * ((i2 + 1))) + (i1)) from by show (nI 12 * (nI (i2 + 1))) + (nI i1) = _; simp only [nI_add, pk_mul]) (by omega) (by decide)) dX11_layRoom_176 ?_
                rw [nx_cl (show (12 * (nI (i2 + 1))) + (nI i1) = nI ((12 * ((i2 + 1))) + (i1)) from by show (nI 12 * (nI (i2 + 1))) + (nI i1) = _; simp only [nI_add, pk_mul]) (by omega)]
                refine lv_if_ne (tgt := 184) hx hb dX11_layRoom_177 (by decide) (fun c22 => ?_) (fun c22 => ?_)
                · refine lv_iconst (v := 0) hx hb dX11_layRoom_184 (by decide) ?_
                  refine va_iast (f := upd (L_lay3 F M p0 i1 (upd (upd (L_lay2 F M p0 i1) (1 + (i1)) 1) ((31 * (18 + (i1))) + 30) 0) i2) (((31 * (1 + (i1))) + 12) + ((i2 + 1))) 0) hx hb hK hP hD hS 37 0 rfl rfl (nx_in (show ((31 * (12 + (nI (i2 + 1)))) + 18) + (nI i1) = nI (((31 * (12 + ((i2 + 1)))) + 18) + (i1)) from by show ((nI 31 * (nI 12 + (nI (i2 + 1)))) + nI 18) + (nI i1) = _; simp only [nI_add, pk_mul]) (by omega) (by decide)) dX11_layRoom_185 (fun H locs hP hD hS => ?_)
                  rw [nx_cl (show ((31 * (12 + (nI (i2 + 1)))) + 18) + (nI i1) = nI (((31 * (12 + ((i2 + 1)))) + 18) + (i1)) from by show ((nI 31 * (nI 12 + (nI (i2 + 1)))) + nI 18) + (nI i1) = _; simp only [nI_add, pk_mul]) (by omega)] at hP hD
                  replace hP : va_P (dC, dI) vwCl (wM h a cI cB cZ F (va_up M 46 (upd (upd (L_lay3 F M p0 i1 (upd (upd (L_lay2 F M p0 i1) (1 + (i1)) 1) ((31 * (18 + (i1))) + 30) 0) i2) (((31 * (1 + (i1))) + 12) + ((i2 + 1))) 0) (((31 * (12 + ((i2 + 1)))) + 18) + (i1)) 0))) H := hP
                  replace hD : va_D A (wM h a cI cB cZ F (va_up M 46 (upd (upd (L_lay3 F M p0 i1 (upd (upd (L_lay2 F M p0 i1) (1 + (i1)) 1) ((31 * (18 + (i1))) + 30) 0) i2) (((31 * (1 + (i1))) + 12) + ((i2 + 1))) 0) (((31 * (12 + ((i2 + 1)))) + 18) + (i1)) 0))) := hD
                  refine lv_iinc (v := nI ((i2 + 1) + 1)) (lv' := [(3, .int (nI ((i2 + 1) + 1))), (4, .int (if ((p0 >>> ((nI (i2 + 1)) &&& 31)) &&& 1) = 1 then (1 : Int32) else 0)), (2, .int (nI i1)), (0, .ref h), (1, .int p0)]) hx hb dX11_layRoom_186 hl (k := 1) rfl (nI_1 (i2 + 1)) (by decide) rfl (fun ls hl => ?_)
                  refine lv_goto (tgt := 91) hx hb dX11_layRoom_189 (by decide) ?_
                  have e9 : L_lay3 F M p0 i1 (upd (upd (L_lay2 F M p0 i1) (1 + (i1)) 1) ((31 * (18 + (i1))) + 30) 0) (i2 + 1) = upd (upd (L_lay3 F M p0 i1 (upd (upd (L_lay2 F M p0 i1) (1 + (i1)) 1) ((31 * (18 + (i1))) + 30) 0) i2) (((31 * (1 + (i1))) + 12) + ((i2 + 1))) 0) (((31 * (12 + ((i2 + 1)))) + 18) + (i1)) 0 := by rw [L_lay3]; rw [if_pos c18, if_pos c20, if_neg c22]
                  refine kk2 ls H locs (show lv_has ls 5 [(3, .int (nI ((i2 + 1) + 1))), (2, .int (nI i1)), (0, .ref h), (1, .int p0)] from ?_) (show va_P (dC, dI) vwCl (wM h a cI cB cZ F (va_up M 46 (L_lay3 F M p0 i1 (upd (upd (L_lay2 F M p0 i1) (1 + (i1)) 1) ((31 * (18 + (i1))) + 30) 0) (i2 + 1)))) H from ?_) (show va_D A (wM h a cI cB cZ F (va_up M 46 (L_lay3 F M p0 i1 (upd (upd (L_lay2 F M p0 i1) (1 + (i1)) 1) ((31 * (18 + (i1))) + 30) 0) (i2 + 1)))) from ?_) hS
                  · exact lv_sub hl [0, 2, 3, 4] rfl
                  · rw [e9]; exact hP
                  · rw [e9]; exact hD
                · refine lv_iconst (v := 1) hx hb dX11_layRoom_180 (by decide) ?_
                  refine lv_goto (tgt := 185) hx hb dX11_layRoom_181 (by decide) ?_
                  refine va_iast (f := upd (L_lay3 F M p0 i1 (upd (upd (L_lay2 F M p0 i1) (1 + (i1)) 1) ((31 * (18 + (i1))) + 30) 0) i2) (((31 * (1 + (i1))) + 12) + ((i2 + 1))) 0) hx hb hK hP hD hS 37 0 rfl rfl (nx_in (show ((31 * (12 + (nI (i2 + 1)))) + 18) + (nI i1) = nI (((31 * (12 + ((i2 + 1)))) + 18) + (i1)) from by show ((nI 31 * (nI 12 + (nI (i2 + 1)))) + nI 18) + (nI i1) = _; simp only [nI_add, pk_mul]) (by omega) (by decide)) dX11_layRoom_185 (fun H locs hP hD hS => ?_)
                  rw [nx_cl (show ((31 * (12 + (nI (i2 + 1)))) + 18) + (nI i1) = nI (((31 * (12 + ((i2 + 1)))) + 18) + (i1)) from by show ((nI 31 * (nI 12 + (nI (i2 + 1)))) + nI 18) + (nI i1) = _; simp only [nI_add, pk_mul]) (by omega)] at hP hD
                  replace hP : va_P (dC, dI) vwCl (wM h a cI cB cZ F (va_up M 46 (upd (upd (L_lay3 F M p0 i1 (upd (upd (L_lay2 F M p0 i1) (1 + (i1)) 1) ((31 * (18 + (i1))) + 30) 0) i2) (((31 * (1 + (i1))) + 12) + ((i2 + 1))) 0) (((31 * (12 + ((i2 + 1)))) + 18) + (i1)) 1))) H := hP
                  replace hD : va_D A (wM h a cI cB cZ F (va_up M 46 (upd (upd (L_lay3 F M p0 i1 (upd (upd (L_lay2 F M p0 i1) (1 + (i1)) 1) ((31 * (18 + (i1))) + 30) 0) i2) (((31 * (1 + (i1))) + 12) + ((i2 + 1))) 0) (((31 * (12 + ((i2 + 1)))) + 18) + (i1)) 1))) := hD
                  refine lv_iinc (v := nI ((i2 + 1) + 1)) (lv' := [(3, .int (nI ((i2 + 1) + 1))), (4, .int (if ((p0 >>> ((nI (i2 + 1)) &&& 31)) &&& 1) = 1 then (1 : Int32) else 0)), (2, .int (nI i1)), (0, .ref h), (1, .int p0)]) hx hb dX11_layRoom_186 hl (k := 1) rfl (nI_1 (i2 + 1)) (by decide) rfl (fun ls hl => ?_)
                  refine lv_goto (tgt := 91) hx hb dX11_layRoom_189 (by decide) ?_
                  have e9 : L_lay3 F M p0 i1 (upd (upd (L_lay2 F M p0 i1) (1 + (i1)) 1) ((31 * (18 + (i1))) + 30) 0) (i2 + 1) = upd (upd (L_lay3 F M p0 i1 (upd (upd (L_lay2 F M p0 i1) (1 + (i1)) 1) ((31 * (18 + (i1))) + 30) 0) i2) (((31 * (1 + (i1))) + 12) + ((i2 + 1))) 0) (((31 * (12 + ((i2 + 1)))) + 18) + (i1)) 1 := by rw [L_lay3]; rw [if_pos c18, if_pos c20, if_pos c22]
                  refine kk2 ls H locs (show lv_has ls 5 [(3, .int (nI ((i2 + 1) + 1))), (2, .int (nI i1)), (0, .ref h), (1, .int p0)] from ?_) (show va_P (dC, dI) vwCl (wM h a cI cB cZ F (va_up M 46 (L_lay3 F M p0 i1 (upd (upd (L_lay2 F M p0 i1) (1 + (i1)) 1) ((31 * (18 + (i1))) + 30) 0) (i2 + 1)))) H from ?_) (show va_D A (wM h a cI cB cZ F (va_up M 46 (L_lay3 F M p0 i1 (upd (upd (L_lay2 F M p0 i1) (1 + (i1)) 1) ((31 * (18 + (i1))) + 30) 0) (i2 + 1)))) from ?_) hS
                  · exact lv_sub hl [0, 2, 3, 4] rfl
                  · rw [e9]; exact hP
                  · rw [e9]; exact hD
              · refine lv_iconst (v := 1) hx hb dX11_layRoom_139 (by decide) ?_
                refine lv_goto (tgt := 144) hx hb dX11_layRoom_140 (by decide) ?_
                refine va_iast (f := (L_lay3 F M p0 i1 (upd (upd (L_lay2 F M p0 i1) (1 + (i1)) 1) ((31 * (18 + (i1))) + 30) 0) i2)) hx hb hK hP hD hS 37 0 rfl rfl (nx_in (show ((31 * (1 + (nI i1))) + 12) + (nI (i2 + 1)) = nI (((31 * (1 + (i1))) + 12) + ((i2 + 1))) from by show ((nI 31 * (nI 1 + (nI i1))) + nI 12) + (nI (i2 + 1)) = _; simp only [nI_add, pk_mul]) (by omega) (by decide)) dX11_layRoom_144 (fun H locs hP hD hS => ?_)
                rw [nx_cl (show ((31 * (1 + (nI i1))) + 12) + (nI (i2 + 1)) = nI (((31 * (1 + (i1))) + 12) + ((i2 + 1))) from by show ((nI 31 * (nI 1 + (nI i1))) + nI 12) + (nI (i2 + 1)) = _; simp only [nI_add, pk_mul]) (by omega)] at hP hD
                replace hP : va_P (dC, dI) vwCl (wM h a cI cB cZ F (va_up M 46 (upd (L_lay3 F M p0 i1 (upd (upd (L_lay2 F M p0 i1) (1 + (i1)) 1) ((31 * (18 + (i1))) + 30) 0) i2) (((31 * (1 + (i1))) + 12) + ((i2 + 1))) 1))) H := hP
                replace hD : va_D A (wM h a cI cB cZ F (va_up M 46 (upd (L_lay3 F M p0 i1 (upd (upd (L_lay2 F M p0 i1) (1 + (i1)) 1) ((31 * (18 + (i1))) + 30) 0) i2) (((31 * (1 + (i1))) + 12) + ((i2 + 1))) 1))) := hD
                refine lv_aload_n hx hb dX11_layRoom_145 rfl (lv_at hl 3 rfl) ?_
                refine va_get (D := (dC, dI)) (ci := 10) (v := .ref (a 46)) (C := RX11) (T := TX11) (N := 49) hx hb hts hin hown hK hP 0 rfl rfl 46 (by decide) (hts (.fieldLink RX11 120 "SocietyBookModel" "room" "[I") (by decide +kernel)) (fun _ h9 => h9) rfl dX11_layRoom_146 ?_
                refine lv_bipush (v := 31) hx hb dX11_layRoom_149 (by decide) ?_
                refine lv_bipush (v := 12) hx hb dX11_layRoom_151 (by decide) ?_
                refine lv_iload_n hx hb dX11_layRoom_153 rfl (lv_at hl 1 rfl) ?_
                refine lv_iadd hx hb dX11_layRoom_154 ?_
                refine lv_imul hx hb dX11_layRoom_155 ?_
                refine lv_bipush (v := 18) hx hb dX11_layRoom_156 (by decide) ?_
                refine lv_iadd hx hb dX11_layRoom_158 ?_
                refine lv_iload_n hx hb dX11_layRoom_159 rfl (lv_at hl 2 rfl) ?_
                refine lv_iadd hx hb dX11_layRoom_160 ?_
                refine lv_iload hx hb dX11_layRoom_161 (lv_at hl 0 rfl) ?_
                refine lv_if_eq (tgt := 184) hx hb dX11_layRoom_163 (by decide) (fun c => absurd c18 (bo_f c)) (fun _ => ?_)
                refine lv_aload_n hx hb dX11_layRoom_166 rfl (lv_at hl 3 rfl) ?_
                refine va_get (D := (dC, dI)) (ci := 10) (v := .ref (a 42)) (C := RX11) (T := TX11) (N := 49) hx hb hts hin hown hK hP 0 rfl rfl 42 (by decide) (hts (.fieldLink RX11 107 "SocietyBookModel" "copies" "[I") (by decide +kernel)) (fun _ h9 => h9) rfl dX11_layRoom_167 ?_
                refine lv_bipush (v := 12) hx hb dX11_layRoom_170 (by decide) ?_
                refine lv_iload_n hx hb dX11_layRoom_172 rfl (lv_at hl 1 rfl) ?_
                refine lv_imul hx hb dX11_layRoom_173 ?_
                refine lv_iload_n hx hb dX11_layRoom_174 rfl (lv_at hl 2 rfl) ?_
                refine lv_iadd hx hb dX11_layRoom_175 ?_
                refine va_iald (f := M 42) hx hb hK hP 33 0 rfl rfl (nx_in (show (12 * (nI (i2 + 1))) + (nI i1) = nI ((12 * ((i2 + 1))) + (i1)) from by show (nI 12 * (nI (i2 + 1))) + (nI i1) = _; simp only [nI_add, pk_mul]) (by omega) (by decide)) dX11_layRoom_176 ?_
                rw [nx_cl (show (12 * (nI (i2 + 1))) + (nI i1) = nI ((12 * ((i2 + 1))) + (i1)) from by show (nI 12 * (nI (i2 + 1))) + (nI i1) = _; simp only [nI_add, pk_mul]) (by omega)]
                refine lv_if_ne (tgt := 184) hx hb dX11_layRoom_177 (by decide) (fun c24 => ?_) (fun c24 => ?_)
                · refine lv_iconst (v := 0) hx hb dX11_layRoom_184 (by decide) ?_
                  refine va_iast (f := upd (L_lay3 F M p0 i1 (upd (upd (L_lay2 F M p0 i1) (1 + (i1)) 1) ((31 * (18 + (i1))) + 30) 0) i2) (((31 * (1 + (i1))) + 12) + ((i2 + 1))) 1) hx hb hK hP hD hS 37 0 rfl rfl (nx_in (show ((31 * (12 + (nI (i2 + 1)))) + 18) + (nI i1) = nI (((31 * (12 + ((i2 + 1)))) + 18) + (i1)) from by show ((nI 31 * (nI 12 + (nI (i2 + 1)))) + nI 18) + (nI i1) = _; simp only [nI_add, pk_mul]) (by omega) (by decide)) dX11_layRoom_185 (fun H locs hP hD hS => ?_)
                  rw [nx_cl (show ((31 * (12 + (nI (i2 + 1)))) + 18) + (nI i1) = nI (((31 * (12 + ((i2 + 1)))) + 18) + (i1)) from by show ((nI 31 * (nI 12 + (nI (i2 + 1)))) + nI 18) + (nI i1) = _; simp only [nI_add, pk_mul]) (by omega)] at hP hD
                  replace hP : va_P (dC, dI) vwCl (wM h a cI cB cZ F (va_up M 46 (upd (upd (L_lay3 F M p0 i1 (upd (upd (L_lay2 F M p0 i1) (1 + (i1)) 1) ((31 * (18 + (i1))) + 30) 0) i2) (((31 * (1 + (i1))) + 12) + ((i2 + 1))) 1) (((31 * (12 + ((i2 + 1)))) + 18) + (i1)) 0))) H := hP
                  replace hD : va_D A (wM h a cI cB cZ F (va_up M 46 (upd (upd (L_lay3 F M p0 i1 (upd (upd (L_lay2 F M p0 i1) (1 + (i1)) 1) ((31 * (18 + (i1))) + 30) 0) i2) (((31 * (1 + (i1))) + 12) + ((i2 + 1))) 1) (((31 * (12 + ((i2 + 1)))) + 18) + (i1)) 0))) := hD
                  refine lv_iinc (v := nI ((i2 + 1) + 1)) (lv' := [(3, .int (nI ((i2 + 1) + 1))), (4, .int (if ((p0 >>> ((nI (i2 + 1)) &&& 31)) &&& 1) = 1 then (1 : Int32) else 0)), (2, .int (nI i1)), (0, .ref h), (1, .int p0)]) hx hb dX11_layRoom_186 hl (k := 1) rfl (nI_1 (i2 + 1)) (by decide) rfl (fun ls hl => ?_)
                  refine lv_goto (tgt := 91) hx hb dX11_layRoom_189 (by decide) ?_
                  have e9 : L_lay3 F M p0 i1 (upd (upd (L_lay2 F M p0 i1) (1 + (i1)) 1) ((31 * (18 + (i1))) + 30) 0) (i2 + 1) = upd (upd (L_lay3 F M p0 i1 (upd (upd (L_lay2 F M p0 i1) (1 + (i1)) 1) ((31 * (18 + (i1))) + 30) 0) i2) (((31 * (1 + (i1))) + 12) + ((i2 + 1))) 1) (((31 * (12 + ((i2 + 1)))) + 18) + (i1)) 0 := by rw [L_lay3]; rw [if_pos c18, if_neg c20, if_neg c24]
                  refine kk2 ls H locs (show lv_has ls 5 [(3, .int (nI ((i2 + 1) + 1))), (2, .int (nI i1)), (0, .ref h), (1, .int p0)] from ?_) (show va_P (dC, dI) vwCl (wM h a cI cB cZ F (va_up M 46 (L_lay3 F M p0 i1 (upd (upd (L_lay2 F M p0 i1) (1 + (i1)) 1) ((31 * (18 + (i1))) + 30) 0) (i2 + 1)))) H from ?_) (show va_D A (wM h a cI cB cZ F (va_up M 46 (L_lay3 F M p0 i1 (upd (upd (L_lay2 F M p0 i1) (1 + (i1)) 1) ((31 * (18 + (i1))) + 30) 0) (i2 + 1)))) from ?_) hS
                  · exact lv_sub hl [0, 2, 3, 4] rfl
                  · rw [e9]; exact hP
                  · rw [e9]; exact hD
                · refine lv_iconst (v := 1) hx hb dX11_layRoom_180 (by decide) ?_
                  refine lv_goto (tgt := 185) hx hb dX11_layRoom_181 (by decide) ?_
                  refine va_iast (f := upd (L_lay3 F M p0 i1 (upd (upd (L_lay2 F M p0 i1) (1 + (i1)) 1) ((31 * (18 + (i1))) + 30) 0) i2) (((31 * (1 + (i1))) + 12) + ((i2 + 1))) 1) hx hb hK hP hD hS 37 0 rfl rfl (nx_in (show ((31 * (12 + (nI (i2 + 1)))) + 18) + (nI i1) = nI (((31 * (12 + ((i2 + 1)))) + 18) + (i1)) from by show ((nI 31 * (nI 12 + (nI (i2 + 1)))) + nI 18) + (nI i1) = _; simp only [nI_add, pk_mul]) (by omega) (by decide)) dX11_layRoom_185 (fun H locs hP hD hS => ?_)
                  rw [nx_cl (show ((31 * (12 + (nI (i2 + 1)))) + 18) + (nI i1) = nI (((31 * (12 + ((i2 + 1)))) + 18) + (i1)) from by show ((nI 31 * (nI 12 + (nI (i2 + 1)))) + nI 18) + (nI i1) = _; simp only [nI_add, pk_mul]) (by omega)] at hP hD
                  replace hP : va_P (dC, dI) vwCl (wM h a cI cB cZ F (va_up M 46 (upd (upd (L_lay3 F M p0 i1 (upd (upd (L_lay2 F M p0 i1) (1 + (i1)) 1) ((31 * (18 + (i1))) + 30) 0) i2) (((31 * (1 + (i1))) + 12) + ((i2 + 1))) 1) (((31 * (12 + ((i2 + 1)))) + 18) + (i1)) 1))) H := hP
                  replace hD : va_D A (wM h a cI cB cZ F (va_up M 46 (upd (upd (L_lay3 F M p0 i1 (upd (upd (L_lay2 F M p0 i1) (1 + (i1)) 1) ((31 * (18 + (i1))) + 30) 0) i2) (((31 * (1 + (i1))) + 12) + ((i2 + 1))) 1) (((31 * (12 + ((i2 + 1)))) + 18) + (i1)) 1))) := hD
                  refine lv_iinc (v := nI ((i2 + 1) + 1)) (lv' := [(3, .int (nI ((i2 + 1) + 1))), (4, .int (if ((p0 >>> ((nI (i2 + 1)) &&& 31)) &&& 1) = 1 then (1 : Int32) else 0)), (2, .int (nI i1)), (0, .ref h), (1, .int p0)]) hx hb dX11_layRoom_186 hl (k := 1) rfl (nI_1 (i2 + 1)) (by decide) rfl (fun ls hl => ?_)
                  refine lv_goto (tgt := 91) hx hb dX11_layRoom_189 (by decide) ?_
                  have e9 : L_lay3 F M p0 i1 (upd (upd (L_lay2 F M p0 i1) (1 + (i1)) 1) ((31 * (18 + (i1))) + 30) 0) (i2 + 1) = upd (upd (L_lay3 F M p0 i1 (upd (upd (L_lay2 F M p0 i1) (1 + (i1)) 1) ((31 * (18 + (i1))) + 30) 0) i2) (((31 * (1 + (i1))) + 12) + ((i2 + 1))) 1) (((31 * (12 + ((i2 + 1)))) + 18) + (i1)) 1 := by rw [L_lay3]; rw [if_pos c18, if_neg c20, if_pos c24]
                  refine kk2 ls H locs (show lv_has ls 5 [(3, .int (nI ((i2 + 1) + 1))), (2, .int (nI i1)), (0, .ref h), (1, .int p0)] from ?_) (show va_P (dC, dI) vwCl (wM h a cI cB cZ F (va_up M 46 (L_lay3 F M p0 i1 (upd (upd (L_lay2 F M p0 i1) (1 + (i1)) 1) ((31 * (18 + (i1))) + 30) 0) (i2 + 1)))) H from ?_) (show va_D A (wM h a cI cB cZ F (va_up M 46 (L_lay3 F M p0 i1 (upd (upd (L_lay2 F M p0 i1) (1 + (i1)) 1) ((31 * (18 + (i1))) + 30) 0) (i2 + 1)))) from ?_) hS
                  · exact lv_sub hl [0, 2, 3, 4] rfl
                  · rw [e9]; exact hP
                  · rw [e9]; exact hD
          · replace hl : lv_has ls 5 [(3, .int (nI (5 + 1))), (2, .int (nI i1)), (0, .ref h), (1, .int p0)] := hl
            replace hP : va_P (dC, dI) vwCl (wM h a cI cB cZ F (va_up M 46 (L_lay3 F M p0 i1 (upd (upd (L_lay2 F M p0 i1) (1 + (i1)) 1) ((31 * (18 + (i1))) + 30) 0) 5))) H := hP
            replace hD : va_D A (wM h a cI cB cZ F (va_up M 46 (L_lay3 F M p0 i1 (upd (upd (L_lay2 F M p0 i1) (1 + (i1)) 1) ((31 * (18 + (i1))) + 30) 0) 5))) := hD
            refine lv_iload_n hx hb dX11_layRoom_91 rfl (lv_at hl 0 rfl) ?_
            refine lv_bipush (v := 6) hx hb dX11_layRoom_92 (by decide) ?_
            refine lv_icmp_ge (tgt := 192) hx hb dX11_layRoom_94 (by decide) (fun _ => ?_) (fun c => absurd (lb_y (N := 6) (by decide)) c)
            refine lv_iinc (v := nI (i1 + 1)) (lv' := [(2, .int (nI (i1 + 1))), (3, .int (nI (5 + 1))), (0, .ref h), (1, .int p0)]) hx hb dX11_layRoom_192 hl (k := 1) rfl (nI_1 i1) (by decide) rfl (fun ls hl => ?_)
            refine lv_goto (tgt := 24) hx hb dX11_layRoom_195 (by decide) ?_
            have e9 : L_lay2 F M p0 (i1 + 1) = (L_lay3 F M p0 i1 (upd (upd (L_lay2 F M p0 i1) (1 + (i1)) 1) ((31 * (18 + (i1))) + 30) 0) 5) := by rw [L_lay2]; rw [if_pos c1, if_pos c17]
            refine kk1 ls H locs (show lv_has ls 5 [(2, .int (nI (i1 + 1))), (0, .ref h), (1, .int p0)] from ?_) (show va_P (dC, dI) vwCl (wM h a cI cB cZ F (va_up M 46 (L_lay2 F M p0 (i1 + 1)))) H from ?_) (show va_D A (wM h a cI cB cZ F (va_up M 46 (L_lay2 F M p0 (i1 + 1)))) from ?_) hS
            · exact lv_sub hl [0, 2, 3] rfl
            · rw [e9]; exact hP
            · rw [e9]; exact hD
        · refine lv_aload_n hx hb dX11_layRoom_76 rfl (lv_at hl 1 rfl) ?_
          refine va_get (D := (dC, dI)) (ci := 10) (v := .ref (a 42)) (C := RX11) (T := TX11) (N := 49) hx hb hts hin hown hK hP 0 rfl rfl 42 (by decide) (hts (.fieldLink RX11 107 "SocietyBookModel" "copies" "[I") (by decide +kernel)) (fun _ h9 => h9) rfl dX11_layRoom_77 ?_
          refine lv_iload_n hx hb dX11_layRoom_80 rfl (lv_at hl 0 rfl) ?_
          refine va_iald (f := M 42) hx hb hK hP 33 0 rfl rfl (vp_in_nI (show i1 < 72 by omega) (by decide)) dX11_layRoom_81 ?_
          rw [nI_clamp (show i1 < 2 ^ 31 by omega)]
          refine lv_iconst (v := 1) hx hb dX11_layRoom_82 (by decide) ?_
          refine lv_isub hx hb dX11_layRoom_83 ?_
          refine lv_goto (tgt := 88) hx hb dX11_layRoom_84 (by decide) ?_
          refine va_iast (f := upd (L_lay2 F M p0 i1) (1 + (i1)) 1) hx hb hK hP hD hS 37 0 rfl rfl (nx_in (show (31 * (18 + (nI i1))) + 30 = nI ((31 * (18 + (i1))) + 30) from by show (nI 31 * (nI 18 + (nI i1))) + nI 30 = _; simp only [nI_add, pk_mul]) (by omega) (by decide)) dX11_layRoom_88 (fun H locs hP hD hS => ?_)
          rw [nx_cl (show (31 * (18 + (nI i1))) + 30 = nI ((31 * (18 + (i1))) + 30) from by show (nI 31 * (nI 18 + (nI i1))) + nI 30 = _; simp only [nI_add, pk_mul]) (by omega)] at hP hD
          replace hP : va_P (dC, dI) vwCl (wM h a cI cB cZ F (va_up M 46 (upd (upd (L_lay2 F M p0 i1) (1 + (i1)) 1) ((31 * (18 + (i1))) + 30) (((M 42) i1) - 1)))) H := hP
          replace hD : va_D A (wM h a cI cB cZ F (va_up M 46 (upd (upd (L_lay2 F M p0 i1) (1 + (i1)) 1) ((31 * (18 + (i1))) + 30) (((M 42) i1) - 1)))) := hD
          refine lv_iconst (v := 1) hx hb dX11_layRoom_89 (by decide) ?_
          refine lv_istore_n (lv' := [(3, .int 1), (2, .int (nI i1)), (0, .ref h), (1, .int p0)]) hx hb dX11_layRoom_90 rfl hl (by decide) rfl (fun ls hl => ?_)
          refine lp_forH (N := 5) (lv := fun i2 => [(3, .int (nI (i2 + 1))), (2, .int (nI i1)), (0, .ref h), (1, .int p0)]) (wd := fun i2 => wM h a cI cB cZ F (va_up M 46 (L_lay3 F M p0 i1 (upd (upd (L_lay2 F M p0 i1) (1 + (i1)) 1) ((31 * (18 + (i1))) + 30) (((M 42) i1) - 1)) i2))) hP hD hS (lv_sub hl [0, 1, 2, 3] rfl) (fun i2 hi2 ls H locs hl hP hD hS kk2 => ?_) (fun ls H locs hl hP hD hS => ?_)
          · replace hl : lv_has ls 5 [(3, .int (nI (i2 + 1))), (2, .int (nI i1)), (0, .ref h), (1, .int p0)] := hl
            replace hP : va_P (dC, dI) vwCl (wM h a cI cB cZ F (va_up M 46 (L_lay3 F M p0 i1 (upd (upd (L_lay2 F M p0 i1) (1 + (i1)) 1) ((31 * (18 + (i1))) + 30) (((M 42) i1) - 1)) i2))) H := hP
            replace hD : va_D A (wM h a cI cB cZ F (va_up M 46 (L_lay3 F M p0 i1 (upd (upd (L_lay2 F M p0 i1) (1 + (i1)) 1) ((31 * (18 + (i1))) + 30) (((M 42) i1) - 1)) i2))) := hD
            refine lv_iload_n hx hb dX11_layRoom_91 rfl (lv_at hl 0 rfl) ?_
            refine lv_bipush (v := 6) hx hb dX11_layRoom_92 (by decide) ?_
            refine lv_icmp_ge (tgt := 192) hx hb dX11_layRoom_94 (by decide) (fun c => absurd c (lb_n (N := 6) (by decide) (show i2 + 1 < 6 by omega))) (fun _ => ?_)
            refine lv_iload_n hx hb dX11_layRoom_97 rfl (lv_at hl 3 rfl) ?_
            refine lv_iload_n hx hb dX11_layRoom_98 rfl (lv_at hl 0 rfl) ?_
            refine vp_callSi (W.runS (As := [.int p0, .int (nI (i2 + 1))]) (rest := []) ⟨hx, hb, hml, hown, hts⟩ (c_X11_has l p0 (nI (i2 + 1))) (va_cwS 2 hts gX11_layRoom_X11_has rfl rfl rfl (by decide +kernel) ⟨Nat.le_of_ble_eq_true rfl, Nat.le_of_ble_eq_true rfl⟩) ⟨fun _ _ _ _ q => q, fun U hU hW => ⟨rfl, trivial⟩⟩ rfl rfl hl.1 rfl (lv_room (Nat.le_of_ble_eq_true rfl)) dX11_layRoom_99 ⟨Nat.zero_le _, Nat.zero_le _⟩) (fun r hr9 => ?_)
            subst hr9
            refine lv_istore (lv' := [(4, .int (if ((p0 >>> ((nI (i2 + 1)) &&& 31)) &&& 1) = 1 then (1 : Int32) else 0)), (3, .int (nI (i2 + 1))), (2, .int (nI i1)), (0, .ref h), (1, .int p0)]) hx hb dX11_layRoom_102 hl (by decide) rfl (fun ls hl => ?_)
            refine lv_aload_n hx hb dX11_layRoom_104 rfl (lv_at hl 3 rfl) ?_
            refine va_get (D := (dC, dI)) (ci := 10) (v := .ref (a 46)) (C := RX11) (T := TX11) (N := 49) hx hb hts hin hown hK hP 0 rfl rfl 46 (by decide) (hts (.fieldLink RX11 120 "SocietyBookModel" "room" "[I") (by decide +kernel)) (fun _ h9 => h9) rfl dX11_layRoom_105 ?_
            refine lv_bipush (v := 31) hx hb dX11_layRoom_108 (by decide) ?_
            refine lv_iconst (v := 1) hx hb dX11_layRoom_110 (by decide) ?_
            refine lv_iload_n hx hb dX11_layRoom_111 rfl (lv_at hl 2 rfl) ?_
            refine lv_iadd hx hb dX11_layRoom_112 ?_
            refine lv_imul hx hb dX11_layRoom_113 ?_
            refine lv_bipush (v := 12) hx hb dX11_layRoom_114 (by decide) ?_
            refine lv_iadd hx hb dX11_layRoom_116 ?_
            refine lv_iload_n hx hb dX11_layRoom_117 rfl (lv_at hl 1 rfl) ?_
            refine lv_iadd hx hb dX11_layRoom_118 ?_
            refine lv_iload hx hb dX11_layRoom_119 (lv_at hl 0 rfl) ?_
            refine lv_if_eq (tgt := 143) hx hb dX11_layRoom_121 (by decide) (fun c25 => ?_) (fun c25 => ?_)
            · replace c25 := bo_f c25
              refine lv_iconst (v := 0) hx hb dX11_layRoom_143 (by decide) ?_
              refine va_iast (f := (L_lay3 F M p0 i1 (upd (upd (L_lay2 F M p0 i1) (1 + (i1)) 1) ((31 * (18 + (i1))) + 30) (((M 42) i1) - 1)) i2)) hx hb hK hP hD hS 37 0 rfl rfl (nx_in (show ((31 * (1 + (nI i1))) + 12) + (nI (i2 + 1)) = nI (((31 * (1 + (i1))) + 12) + ((i2 + 1))) from by show ((nI 31 * (nI 1 + (nI i1))) + nI 12) + (nI (i2 + 1)) = _; simp only [nI_add, pk_mul]) (by omega) (by decide)) dX11_layRoom_144 (fun H locs hP hD hS => ?_)
              rw [nx_cl (show ((31 * (1 + (nI i1))) + 12) + (nI (i2 + 1)) = nI (((31 * (1 + (i1))) + 12) + ((i2 + 1))) from by show ((nI 31 * (nI 1 + (nI i1))) + nI 12) + (nI (i2 + 1)) = _; simp only [nI_add, pk_mul]) (by omega)] at hP hD
              replace hP : va_P (dC, dI) vwCl (wM h a cI cB cZ F (va_up M 46 (upd (L_lay3 F M p0 i1 (upd (upd (L_lay2 F M p0 i1) (1 + (i1)) 1) ((31 * (18 + (i1))) + 30) (((M 42) i1) - 1)) i2) (((31 * (1 + (i1))) + 12) + ((i2 + 1))) 0))) H := hP
              replace hD : va_D A (wM h a cI cB cZ F (va_up M 46 (upd (L_lay3 F M p0 i1 (upd (upd (L_lay2 F M p0 i1) (1 + (i1)) 1) ((31 * (18 + (i1))) + 30) (((M 42) i1) - 1)) i2) (((31 * (1 + (i1))) + 12) + ((i2 + 1))) 0))) := hD
              refine lv_aload_n hx hb dX11_layRoom_145 rfl (lv_at hl 3 rfl) ?_
              refine va_get (D := (dC, dI)) (ci := 10) (v := .ref (a 46)) (C := RX11) (T := TX11) (N := 49) hx hb hts hin hown hK hP 0 rfl rfl 46 (by decide) (hts (.fieldLink RX11 120 "SocietyBookModel" "room" "[I") (by decide +kernel)) (fun _ h9 => h9) rfl dX11_layRoom_146 ?_
              refine lv_bipush (v := 31) hx hb dX11_layRoom_149 (by decide) ?_
              refine lv_bipush (v := 12) hx hb dX11_layRoom_151 (by decide) ?_
              refine lv_iload_n hx hb dX11_layRoom_153 rfl (lv_at hl 1 rfl) ?_
              refine lv_iadd hx hb dX11_layRoom_154 ?_
              refine lv_imul hx hb dX11_layRoom_155 ?_
              refine lv_bipush (v := 18) hx hb dX11_layRoom_156 (by decide) ?_
              refine lv_iadd hx hb dX11_layRoom_158 ?_
              refine lv_iload_n hx hb dX11_layRoom_159 rfl (lv_at hl 2 rfl) ?_
              refine lv_iadd hx hb dX11_layRoom_160 ?_
              refine lv_iload hx hb dX11_layRoom_161 (lv_at hl 0 rfl) ?_
              refine lv_if_eq (tgt := 184) hx hb dX11_layRoom_163 (by decide) (fun _ => ?_) (fun c => absurd (bo_t c) c25)
              refine lv_iconst (v := 0) hx hb dX11_layRoom_184 (by decide) ?_
              refine va_iast (f := upd (L_lay3 F M p0 i1 (upd (upd (L_lay2 F M p0 i1) (1 + (i1)) 1) ((31 * (18 + (i1))) + 30) (((M 42) i1) - 1)) i2) (((31 * (1 + (i1))) + 12) + ((i2 + 1))) 0) hx hb hK hP hD hS 37 0 rfl rfl (nx_in (show ((31 * (12 + (nI (i2 + 1)))) + 18) + (nI i1) = nI (((31 * (12 + ((i2 + 1)))) + 18) + (i1)) from by show ((nI 31 * (nI 12 + (nI (i2 + 1)))) + nI 18) + (nI i1) = _; simp only [nI_add, pk_mul]) (by omega) (by decide)) dX11_layRoom_185 (fun H locs hP hD hS => ?_)
              rw [nx_cl (show ((31 * (12 + (nI (i2 + 1)))) + 18) + (nI i1) = nI (((31 * (12 + ((i2 + 1)))) + 18) + (i1)) from by show ((nI 31 * (nI 12 + (nI (i2 + 1)))) + nI 18) + (nI i1) = _; simp only [nI_add, pk_mul]) (by omega)] at hP hD
              replace hP : va_P (dC, dI) vwCl (wM h a cI cB cZ F (va_up M 46 (upd (upd (L_lay3 F M p0 i1 (upd (upd (L_lay2 F M p0 i1) (1 + (i1)) 1) ((31 * (18 + (i1))) + 30) (((M 42) i1) - 1)) i2) (((31 * (1 + (i1))) + 12) + ((i2 + 1))) 0) (((31 * (12 + ((i2 + 1)))) + 18) + (i1)) 0))) H := hP
              replace hD : va_D A (wM h a cI cB cZ F (va_up M 46 (upd (upd (L_lay3 F M p0 i1 (upd (upd (L_lay2 F M p0 i1) (1 + (i1)) 1) ((31 * (18 + (i1))) + 30) (((M 42) i1) - 1)) i2) (((31 * (1 + (i1))) + 12) + ((i2 + 1))) 0) (((31 * (12 + ((i2 + 1)))) + 18) + (i1)) 0))) := hD
              refine lv_iinc (v := nI ((i2 + 1) + 1)) (lv' := [(3, .int (nI ((i2 + 1) + 1))), (4, .int (if ((p0 >>> ((nI (i2 + 1)) &&& 31)) &&& 1) = 1 then (1 : Int32) else 0)), (2, .int (nI i1)), (0, .ref h), (1, .int p0)]) hx hb dX11_layRoom_186 hl (k := 1) rfl (nI_1 (i2 + 1)) (by decide) rfl (fun ls hl => ?_)
              refine lv_goto (tgt := 91) hx hb dX11_layRoom_189 (by decide) ?_
              have e9 : L_lay3 F M p0 i1 (upd (upd (L_lay2 F M p0 i1) (1 + (i1)) 1) ((31 * (18 + (i1))) + 30) (((M 42) i1) - 1)) (i2 + 1) = upd (upd (L_lay3 F M p0 i1 (upd (upd (L_lay2 F M p0 i1) (1 + (i1)) 1) ((31 * (18 + (i1))) + 30) (((M 42) i1) - 1)) i2) (((31 * (1 + (i1))) + 12) + ((i2 + 1))) 0) (((31 * (12 + ((i2 + 1)))) + 18) + (i1)) 0 := by rw [L_lay3]; rw [if_neg c25]
              refine kk2 ls H locs (show lv_has ls 5 [(3, .int (nI ((i2 + 1) + 1))), (2, .int (nI i1)), (0, .ref h), (1, .int p0)] from ?_) (show va_P (dC, dI) vwCl (wM h a cI cB cZ F (va_up M 46 (L_lay3 F M p0 i1 (upd (upd (L_lay2 F M p0 i1) (1 + (i1)) 1) ((31 * (18 + (i1))) + 30) (((M 42) i1) - 1)) (i2 + 1)))) H from ?_) (show va_D A (wM h a cI cB cZ F (va_up M 46 (L_lay3 F M p0 i1 (upd (upd (L_lay2 F M p0 i1) (1 + (i1)) 1) ((31 * (18 + (i1))) + 30) (((M 42) i1) - 1)) (i2 + 1)))) from ?_) hS
              · exact lv_sub hl [0, 2, 3, 4] rfl
              · rw [e9]; exact hP
              · rw [e9]; exact hD
            · replace c25 := bo_t c25
              refine lv_aload_n hx hb dX11_layRoom_124 rfl (lv_at hl 3 rfl) ?_
              refine va_get (D := (dC, dI)) (ci := 10) (v := .ref (a 42)) (C := RX11) (T := TX11) (N := 49) hx hb hts hin hown hK hP 0 rfl rfl 42 (by decide) (hts (.fieldLink RX11 107 "SocietyBookModel" "copies" "[I") (by decide +kernel)) (fun _ h9 => h9) rfl dX11_layRoom_125 ?_
              refine lv_bipush (v := 12) hx hb dX11_layRoom_128 (by decide) ?_
              refine lv_iload_n hx hb dX11_layRoom_130 rfl (lv_at hl 1 rfl) ?_
              refine lv_imul hx hb dX11_layRoom_131 ?_
              refine lv_iload_n hx hb dX11_layRoom_132 rfl (lv_at hl 2 rfl) ?_
              refine lv_iadd hx hb dX11_layRoom_133 ?_
              refine va_iald (f := M 42) hx hb hK hP 33 0 rfl rfl (nx_in (show (12 * (nI (i2 + 1))) + (nI i1) = nI ((12 * ((i2 + 1))) + (i1)) from by show (nI 12 * (nI (i2 + 1))) + (nI i1) = _; simp only [nI_add, pk_mul]) (by omega) (by decide)) dX11_layRoom_134 ?_
              rw [nx_cl (show (12 * (nI (i2 + 1))) + (nI i1) = nI ((12 * ((i2 + 1))) + (i1)) from by show (nI 12 * (nI (i2 + 1))) + (nI i1) = _; simp only [nI_add, pk_mul]) (by omega)]
              refine lv_iconst (v := 1) hx hb dX11_layRoom_135 (by decide) ?_
              refine lv_icmp_le (tgt := 143) hx hb dX11_layRoom_136 (by decide) (fun c27 => ?_) (fun c27 => ?_)
              · refine lv_iconst (v := 0) hx hb dX11_layRoom_143 (by decide) ?_
                refine va_iast (f := (L_lay3 F M p0 i1 (upd (upd (L_lay2 F M p0 i1) (1 + (i1)) 1) ((31 * (18 + (i1))) + 30) (((M 42) i1) - 1)) i2)) hx hb hK hP hD hS 37 0 rfl rfl (nx_in (show ((31 * (1 + (nI i1))) + 12) + (nI (i2 + 1)) = nI (((31 * (1 + (i1))) + 12) + ((i2 + 1))) from by show ((nI 31 * (nI 1 + (nI i1))) + nI 12) + (nI (i2 + 1)) = _; simp only [nI_add, pk_mul]) (by omega) (by decide)) dX11_layRoom_144 (fun H locs hP hD hS => ?_)
                rw [nx_cl (show ((31 * (1 + (nI i1))) + 12) + (nI (i2 + 1)) = nI (((31 * (1 + (i1))) + 12) + ((i2 + 1))) from by show ((nI 31 * (nI 1 + (nI i1))) + nI 12) + (nI (i2 + 1)) = _; simp only [nI_add, pk_mul]) (by omega)] at hP hD
                replace hP : va_P (dC, dI) vwCl (wM h a cI cB cZ F (va_up M 46 (upd (L_lay3 F M p0 i1 (upd (upd (L_lay2 F M p0 i1) (1 + (i1)) 1) ((31 * (18 + (i1))) + 30) (((M 42) i1) - 1)) i2) (((31 * (1 + (i1))) + 12) + ((i2 + 1))) 0))) H := hP
                replace hD : va_D A (wM h a cI cB cZ F (va_up M 46 (upd (L_lay3 F M p0 i1 (upd (upd (L_lay2 F M p0 i1) (1 + (i1)) 1) ((31 * (18 + (i1))) + 30) (((M 42) i1) - 1)) i2) (((31 * (1 + (i1))) + 12) + ((i2 + 1))) 0))) := hD
                refine lv_aload_n hx hb dX11_layRoom_145 rfl (lv_at hl 3 rfl) ?_
                refine va_get (D := (dC, dI)) (ci := 10) (v := .ref (a 46)) (C := RX11) (T := TX11) (N := 49) hx hb hts hin hown hK hP 0 rfl rfl 46 (by decide) (hts (.fieldLink RX11 120 "SocietyBookModel" "room" "[I") (by decide +kernel)) (fun _ h9 => h9) rfl dX11_layRoom_146 ?_
                refine lv_bipush (v := 31) hx hb dX11_layRoom_149 (by decide) ?_
                refine lv_bipush (v := 12) hx hb dX11_layRoom_151 (by decide) ?_
                refine lv_iload_n hx hb dX11_layRoom_153 rfl (lv_at hl 1 rfl) ?_
                refine lv_iadd hx hb dX11_layRoom_154 ?_
                refine lv_imul hx hb dX11_layRoom_155 ?_
                refine lv_bipush (v := 18) hx hb dX11_layRoom_156 (by decide) ?_
                refine lv_iadd hx hb dX11_layRoom_158 ?_
                refine lv_iload_n hx hb dX11_layRoom_159 rfl (lv_at hl 2 rfl) ?_
                refine lv_iadd hx hb dX11_layRoom_160 ?_
                refine lv_iload hx hb dX11_layRoom_161 (lv_at hl 0 rfl) ?_
                refine lv_if_eq (tgt := 184) hx hb dX11_layRoom_163 (by decide) (fun c => absurd c25 (bo_f c)) (fun _ => ?_)
                refine lv_aload_n hx hb dX11_layRoom_166 rfl (lv_at hl 3 rfl) ?_
                refine va_get (D := (dC, dI)) (ci := 10) (v := .ref (a 42)) (C := RX11) (T := TX11) (N := 49) hx hb hts hin hown hK hP 0 rfl rfl 42 (by decide) (hts (.fieldLink RX11 107 "SocietyBookModel" "copies" "[I") (by decide +kernel)) (fun _ h9 => h9) rfl dX11_layRoom_167 ?_
                refine lv_bipush (v := 12) hx hb dX11_layRoom_170 (by decide) ?_
                refine lv_iload_n hx hb dX11_layRoom_172 rfl (lv_at hl 1 rfl) ?_
                refine lv_imul hx hb dX11_layRoom_173 ?_
                refine lv_iload_n hx hb dX11_layRoom_174 rfl (lv_at hl 2 rfl) ?_
                refine lv_iadd hx hb dX11_layRoom_175 ?_
                refine va_iald (f := M 42) hx hb hK hP 33 0 rfl rfl (nx_in (show (12 * (nI (i2 + 1))) + (nI i1) = nI ((12 * ((i2 + 1))) + (i1)) from by show (nI 12 * (nI (i2 + 1))) + (nI i1) = _; simp only [nI_add, pk_mul]) (by omega) (by decide)) dX11_layRoom_176 ?_
                rw [nx_cl (show (12 * (nI (i2 + 1))) + (nI i1) = nI ((12 * ((i2 + 1))) + (i1)) from by show (nI 12 * (nI (i2 + 1))) + (nI i1) = _; simp only [nI_add, pk_mul]) (by omega)]
                refine lv_if_ne (tgt := 184) hx hb dX11_layRoom_177 (by decide) (fun c29 => ?_) (fun c29 => ?_)
                · refine lv_iconst (v := 0) hx hb dX11_layRoom_184 (by decide) ?_
                  refine va_iast (f := upd (L_lay3 F M p0 i1 (upd (upd (L_lay2 F M p0 i1) (1 + (i1)) 1) ((31 * (18 + (i1))) + 30) (((M 42) i1) - 1)) i2) (((31 * (1 + (i1))) + 12) + ((i2 + 1))) 0) hx hb hK hP hD hS 37 0 rfl rfl (nx_in (show ((31 * (12 + (nI (i2 + 1)))) + 18) + (nI i1) = nI (((31 * (12 + ((i2 + 1)))) + 18) + (i1)) from by show ((nI 31 * (nI 12 + (nI (i2 + 1)))) + nI 18) + (nI i1) = _; simp only [nI_add, pk_mul]) (by omega) (by decide)) dX11_layRoom_185 (fun H locs hP hD hS => ?_)
                  rw [nx_cl (show ((31 * (12 + (nI (i2 + 1)))) + 18) + (nI i1) = nI (((31 * (12 + ((i2 + 1)))) + 18) + (i1)) from by show ((nI 31 * (nI 12 + (nI (i2 + 1)))) + nI 18) + (nI i1) = _; simp only [nI_add, pk_mul]) (by omega)] at hP hD
                  replace hP : va_P (dC, dI) vwCl (wM h a cI cB cZ F (va_up M 46 (upd (upd (L_lay3 F M p0 i1 (upd (upd (L_lay2 F M p0 i1) (1 + (i1)) 1) ((31 * (18 + (i1))) + 30) (((M 42) i1) - 1)) i2) (((31 * (1 + (i1))) + 12) + ((i2 + 1))) 0) (((31 * (12 + ((i2 + 1)))) + 18) + (i1)) 0))) H := hP
                  replace hD : va_D A (wM h a cI cB cZ F (va_up M 46 (upd (upd (L_lay3 F M p0 i1 (upd (upd (L_lay2 F M p0 i1) (1 + (i1)) 1) ((31 * (18 + (i1))) + 30) (((M 42) i1) - 1)) i2) (((31 * (1 + (i1))) + 12) + ((i2 + 1))) 0) (((31 * (12 + ((i2 + 1)))) + 18) + (i1)) 0))) := hD
                  refine lv_iinc (v := nI ((i2 + 1) + 1)) (lv' := [(3, .int (nI ((i2 + 1) + 1))), (4, .int (if ((p0 >>> ((nI (i2 + 1)) &&& 31)) &&& 1) = 1 then (1 : Int32) else 0)), (2, .int (nI i1)), (0, .ref h), (1, .int p0)]) hx hb dX11_layRoom_186 hl (k := 1) rfl (nI_1 (i2 + 1)) (by decide) rfl (fun ls hl => ?_)
                  refine lv_goto (tgt := 91) hx hb dX11_layRoom_189 (by decide) ?_
                  have e9 : L_lay3 F M p0 i1 (upd (upd (L_lay2 F M p0 i1) (1 + (i1)) 1) ((31 * (18 + (i1))) + 30) (((M 42) i1) - 1)) (i2 + 1) = upd (upd (L_lay3 F M p0 i1 (upd (upd (L_lay2 F M p0 i1) (1 + (i1)) 1) ((31 * (18 + (i1))) + 30) (((M 42) i1) - 1)) i2) (((31 * (1 + (i1))) + 12) + ((i2 + 1))) 0) (((31 * (12 + ((i2 + 1)))) + 18) + (i1)) 0 := by rw [L_lay3]; rw [if_pos c25, if_pos c27, if_neg c29]
                  refine kk2 ls H locs (show lv_has ls 5 [(3, .int (nI ((i2 + 1) + 1))), (2, .int (nI i1)), (0, .ref h), (1, .int p0)] from ?_) (show va_P (dC, dI) vwCl (wM h a cI cB cZ F (va_up M 46 (L_lay3 F M p0 i1 (upd (upd (L_lay2 F M p0 i1) (1 + (i1)) 1) ((31 * (18 + (i1))) + 30) (((M 42) i1) - 1)) (i2 + 1)))) H from ?_) (show va_D A (wM h a cI cB cZ F (va_up M 46 (L_lay3 F M p0 i1 (upd (upd (L_lay2 F M p0 i1) (1 + (i1)) 1) ((31 * (18 + (i1))) + 30) (((M 42) i1) - 1)) (i2 + 1)))) from ?_) hS
                  · exact lv_sub hl [0, 2, 3, 4] rfl
                  · rw [e9]; exact hP
                  · rw [e9]; exact hD
                · refine lv_iconst (v := 1) hx hb dX11_layRoom_180 (by decide) ?_
                  refine lv_goto (tgt := 185) hx hb dX11_layRoom_181 (by decide) ?_
                  refine va_iast (f := upd (L_lay3 F M p0 i1 (upd (upd (L_lay2 F M p0 i1) (1 + (i1)) 1) ((31 * (18 + (i1))) + 30) (((M 42) i1) - 1)) i2) (((31 * (1 + (i1))) + 12) + ((i2 + 1))) 0) hx hb hK hP hD hS 37 0 rfl rfl (nx_in (show ((31 * (12 + (nI (i2 + 1)))) + 18) + (nI i1) = nI (((31 * (12 + ((i2 + 1)))) + 18) + (i1)) from by show ((nI 31 * (nI 12 + (nI (i2 + 1)))) + nI 18) + (nI i1) = _; simp only [nI_add, pk_mul]) (by omega) (by decide)) dX11_layRoom_185 (fun H locs hP hD hS => ?_)
                  rw [nx_cl (show ((31 * (12 + (nI (i2 + 1)))) + 18) + (nI i1) = nI (((31 * (12 + ((i2 + 1)))) + 18) + (i1)) from by show ((nI 31 * (nI 12 + (nI (i2 + 1)))) + nI 18) + (nI i1) = _; simp only [nI_add, pk_mul]) (by omega)] at hP hD
                  replace hP : va_P (dC, dI) vwCl (wM h a cI cB cZ F (va_up M 46 (upd (upd (L_lay3 F M p0 i1 (upd (upd (L_lay2 F M p0 i1) (1 + (i1)) 1) ((31 * (18 + (i1))) + 30) (((M 42) i1) - 1)) i2) (((31 * (1 + (i1))) + 12) + ((i2 + 1))) 0) (((31 * (12 + ((i2 + 1)))) + 18) + (i1)) 1))) H := hP
                  replace hD : va_D A (wM h a cI cB cZ F (va_up M 46 (upd (upd (L_lay3 F M p0 i1 (upd (upd (L_lay2 F M p0 i1) (1 + (i1)) 1) ((31 * (18 + (i1))) + 30) (((M 42) i1) - 1)) i2) (((31 * (1 + (i1))) + 12) + ((i2 + 1))) 0) (((31 * (12 + ((i2 + 1)))) + 18) + (i1)) 1))) := hD
                  refine lv_iinc (v := nI ((i2 + 1) + 1)) (lv' := [(3, .int (nI ((i2 + 1) + 1))), (4, .int (if ((p0 >>> ((nI (i2 + 1)) &&& 31)) &&& 1) = 1 then (1 : Int32) else 0)), (2, .int (nI i1)), (0, .ref h), (1, .int p0)]) hx hb dX11_layRoom_186 hl (k := 1) rfl (nI_1 (i2 + 1)) (by decide) rfl (fun ls hl => ?_)
                  refine lv_goto (tgt := 91) hx hb dX11_layRoom_189 (by decide) ?_
                  have e9 : L_lay3 F M p0 i1 (upd (upd (L_lay2 F M p0 i1) (1 + (i1)) 1) ((31 * (18 + (i1))) + 30) (((M 42) i1) - 1)) (i2 + 1) = upd (upd (L_lay3 F M p0 i1 (upd (upd (L_lay2 F M p0 i1) (1 + (i1)) 1) ((31 * (18 + (i1))) + 30) (((M 42) i1) - 1)) i2) (((31 * (1 + (i1))) + 12) + ((i2 + 1))) 0) (((31 * (12 + ((i2 + 1)))) + 18) + (i1)) 1 := by rw [L_lay3]; rw [if_pos c25, if_pos c27, if_pos c29]
                  refine kk2 ls H locs (show lv_has ls 5 [(3, .int (nI ((i2 + 1) + 1))), (2, .int (nI i1)), (0, .ref h), (1, .int p0)] from ?_) (show va_P (dC, dI) vwCl (wM h a cI cB cZ F (va_up M 46 (L_lay3 F M p0 i1 (upd (upd (L_lay2 F M p0 i1) (1 + (i1)) 1) ((31 * (18 + (i1))) + 30) (((M 42) i1) - 1)) (i2 + 1)))) H from ?_) (show va_D A (wM h a cI cB cZ F (va_up M 46 (L_lay3 F M p0 i1 (upd (upd (L_lay2 F M p0 i1) (1 + (i1)) 1) ((31 * (18 + (i1))) + 30) (((M 42) i1) - 1)) (i2 + 1)))) from ?_) hS
                  · exact lv_sub hl [0, 2, 3, 4] rfl
                  · rw [e9]; exact hP
                  · rw [e9]; exact hD
              · refine lv_iconst (v := 1) hx hb dX11_layRoom_139 (by decide) ?_
                refine lv_goto (tgt := 144) hx hb dX11_layRoom_140 (by decide) ?_
                refine va_iast (f := (L_lay3 F M p0 i1 (upd (upd (L_lay2 F M p0 i1) (1 + (i1)) 1) ((31 * (18 + (i1))) + 30) (((M 42) i1) - 1)) i2)) hx hb hK hP hD hS 37 0 rfl rfl (nx_in (show ((31 * (1 + (nI i1))) + 12) + (nI (i2 + 1)) = nI (((31 * (1 + (i1))) + 12) + ((i2 + 1))) from by show ((nI 31 * (nI 1 + (nI i1))) + nI 12) + (nI (i2 + 1)) = _; simp only [nI_add, pk_mul]) (by omega) (by decide)) dX11_layRoom_144 (fun H locs hP hD hS => ?_)
                rw [nx_cl (show ((31 * (1 + (nI i1))) + 12) + (nI (i2 + 1)) = nI (((31 * (1 + (i1))) + 12) + ((i2 + 1))) from by show ((nI 31 * (nI 1 + (nI i1))) + nI 12) + (nI (i2 + 1)) = _; simp only [nI_add, pk_mul]) (by omega)] at hP hD
                replace hP : va_P (dC, dI) vwCl (wM h a cI cB cZ F (va_up M 46 (upd (L_lay3 F M p0 i1 (upd (upd (L_lay2 F M p0 i1) (1 + (i1)) 1) ((31 * (18 + (i1))) + 30) (((M 42) i1) - 1)) i2) (((31 * (1 + (i1))) + 12) + ((i2 + 1))) 1))) H := hP
                replace hD : va_D A (wM h a cI cB cZ F (va_up M 46 (upd (L_lay3 F M p0 i1 (upd (upd (L_lay2 F M p0 i1) (1 + (i1)) 1) ((31 * (18 + (i1))) + 30) (((M 42) i1) - 1)) i2) (((31 * (1 + (i1))) + 12) + ((i2 + 1))) 1))) := hD
                refine lv_aload_n hx hb dX11_layRoom_145 rfl (lv_at hl 3 rfl) ?_
                refine va_get (D := (dC, dI)) (ci := 10) (v := .ref (a 46)) (C := RX11) (T := TX11) (N := 49) hx hb hts hin hown hK hP 0 rfl rfl 46 (by decide) (hts (.fieldLink RX11 120 "SocietyBookModel" "room" "[I") (by decide +kernel)) (fun _ h9 => h9) rfl dX11_layRoom_146 ?_
                refine lv_bipush (v := 31) hx hb dX11_layRoom_149 (by decide) ?_
                refine lv_bipush (v := 12) hx hb dX11_layRoom_151 (by decide) ?_
                refine lv_iload_n hx hb dX11_layRoom_153 rfl (lv_at hl 1 rfl) ?_
                refine lv_iadd hx hb dX11_layRoom_154 ?_
                refine lv_imul hx hb dX11_layRoom_155 ?_
                refine lv_bipush (v := 18) hx hb dX11_layRoom_156 (by decide) ?_
                refine lv_iadd hx hb dX11_layRoom_158 ?_
                refine lv_iload_n hx hb dX11_layRoom_159 rfl (lv_at hl 2 rfl) ?_
                refine lv_iadd hx hb dX11_layRoom_160 ?_
                refine lv_iload hx hb dX11_layRoom_161 (lv_at hl 0 rfl) ?_
                refine lv_if_eq (tgt := 184) hx hb dX11_layRoom_163 (by decide) (fun c => absurd c25 (bo_f c)) (fun _ => ?_)
                refine lv_aload_n hx hb dX11_layRoom_166 rfl (lv_at hl 3 rfl) ?_
                refine va_get (D := (dC, dI)) (ci := 10) (v := .ref (a 42)) (C := RX11) (T := TX11) (N := 49) hx hb hts hin hown hK hP 0 rfl rfl 42 (by decide) (hts (.fieldLink RX11 107 "SocietyBookModel" "copies" "[I") (by decide +kernel)) (fun _ h9 => h9) rfl dX11_layRoom_167 ?_
                refine lv_bipush (v := 12) hx hb dX11_layRoom_170 (by decide) ?_
                refine lv_iload_n hx hb dX11_layRoom_172 rfl (lv_at hl 1 rfl) ?_
                refine lv_imul hx hb dX11_layRoom_173 ?_
                refine lv_iload_n hx hb dX11_layRoom_174 rfl (lv_at hl 2 rfl) ?_
                refine lv_iadd hx hb dX11_layRoom_175 ?_
                refine va_iald (f := M 42) hx hb hK hP 33 0 rfl rfl (nx_in (show (12 * (nI (i2 + 1))) + (nI i1) = nI ((12 * ((i2 + 1))) + (i1)) from by show (nI 12 * (nI (i2 + 1))) + (nI i1) = _; simp only [nI_add, pk_mul]) (by omega) (by decide)) dX11_layRoom_176 ?_
                rw [nx_cl (show (12 * (nI (i2 + 1))) + (nI i1) = nI ((12 * ((i2 + 1))) + (i1)) from by show (nI 12 * (nI (i2 + 1))) + (nI i1) = _; simp only [nI_add, pk_mul]) (by omega)]
                refine lv_if_ne (tgt := 184) hx hb dX11_layRoom_177 (by decide) (fun c31 => ?_) (fun c31 => ?_)
                · refine lv_iconst (v := 0) hx hb dX11_layRoom_184 (by decide) ?_
                  refine va_iast (f := upd (L_lay3 F M p0 i1 (upd (upd (L_lay2 F M p0 i1) (1 + (i1)) 1) ((31 * (18 + (i1))) + 30) (((M 42) i1) - 1)) i2) (((31 * (1 + (i1))) + 12) + ((i2 + 1))) 1) hx hb hK hP hD hS 37 0 rfl rfl (nx_in (show ((31 * (12 + (nI (i2 + 1)))) + 18) + (nI i1) = nI (((31 * (12 + ((i2 + 1)))) + 18) + (i1)) from by show ((nI 31 * (nI 12 + (nI (i2 + 1)))) + nI 18) + (nI i1) = _; simp only [nI_add, pk_mul]) (by omega) (by decide)) dX11_layRoom_185 (fun H locs hP hD hS => ?_)
                  rw [nx_cl (show ((31 * (12 + (nI (i2 + 1)))) + 18) + (nI i1) = nI (((31 * (12 + ((i2 + 1)))) + 18) + (i1)) from by show ((nI 31 * (nI 12 + (nI (i2 + 1)))) + nI 18) + (nI i1) = _; simp only [nI_add, pk_mul]) (by omega)] at hP hD
                  replace hP : va_P (dC, dI) vwCl (wM h a cI cB cZ F (va_up M 46 (upd (upd (L_lay3 F M p0 i1 (upd (upd (L_lay2 F M p0 i1) (1 + (i1)) 1) ((31 * (18 + (i1))) + 30) (((M 42) i1) - 1)) i2) (((31 * (1 + (i1))) + 12) + ((i2 + 1))) 1) (((31 * (12 + ((i2 + 1)))) + 18) + (i1)) 0))) H := hP
                  replace hD : va_D A (wM h a cI cB cZ F (va_up M 46 (upd (upd (L_lay3 F M p0 i1 (upd (upd (L_lay2 F M p0 i1) (1 + (i1)) 1) ((31 * (18 + (i1))) + 30) (((M 42) i1) - 1)) i2) (((31 * (1 + (i1))) + 12) + ((i2 + 1))) 1) (((31 * (12 + ((i2 + 1)))) + 18) + (i1)) 0))) := hD
                  refine lv_iinc (v := nI ((i2 + 1) + 1)) (lv' := [(3, .int (nI ((i2 + 1) + 1))), (4, .int (if ((p0 >>> ((nI (i2 + 1)) &&& 31)) &&& 1) = 1 then (1 : Int32) else 0)), (2, .int (nI i1)), (0, .ref h), (1, .int p0)]) hx hb dX11_layRoom_186 hl (k := 1) rfl (nI_1 (i2 + 1)) (by decide) rfl (fun ls hl => ?_)
                  refine lv_goto (tgt := 91) hx hb dX11_layRoom_189 (by decide) ?_
                  have e9 : L_lay3 F M p0 i1 (upd (upd (L_lay2 F M p0 i1) (1 + (i1)) 1) ((31 * (18 + (i1))) + 30) (((M 42) i1) - 1)) (i2 + 1) = upd (upd (L_lay3 F M p0 i1 (upd (upd (L_lay2 F M p0 i1) (1 + (i1)) 1) ((31 * (18 + (i1))) + 30) (((M 42) i1) - 1)) i2) (((31 * (1 + (i1))) + 12) + ((i2 + 1))) 1) (((31 * (12 + ((i2 + 1)))) + 18) + (i1)) 0 := by rw [L_lay3]; rw [if_pos c25, if_neg c27, if_neg c31]
                  refine kk2 ls H locs (show lv_has ls 5 [(3, .int (nI ((i2 + 1) + 1))), (2, .int (nI i1)), (0, .ref h), (1, .int p0)] from ?_) (show va_P (dC, dI) vwCl (wM h a cI cB cZ F (va_up M 46 (L_lay3 F M p0 i1 (upd (upd (L_lay2 F M p0 i1) (1 + (i1)) 1) ((31 * (18 + (i1))) + 30) (((M 42) i1) - 1)) (i2 + 1)))) H from ?_) (show va_D A (wM h a cI cB cZ F (va_up M 46 (L_lay3 F M p0 i1 (upd (upd (L_lay2 F M p0 i1) (1 + (i1)) 1) ((31 * (18 + (i1))) + 30) (((M 42) i1) - 1)) (i2 + 1)))) from ?_) hS
                  · exact lv_sub hl [0, 2, 3, 4] rfl
                  · rw [e9]; exact hP
                  · rw [e9]; exact hD
                · refine lv_iconst (v := 1) hx hb dX11_layRoom_180 (by decide) ?_
                  refine lv_goto (tgt := 185) hx hb dX11_layRoom_181 (by decide) ?_
                  refine va_iast (f := upd (L_lay3 F M p0 i1 (upd (upd (L_lay2 F M p0 i1) (1 + (i1)) 1) ((31 * (18 + (i1))) + 30) (((M 42) i1) - 1)) i2) (((31 * (1 + (i1))) + 12) + ((i2 + 1))) 1) hx hb hK hP hD hS 37 0 rfl rfl (nx_in (show ((31 * (12 + (nI (i2 + 1)))) + 18) + (nI i1) = nI (((31 * (12 + ((i2 + 1)))) + 18) + (i1)) from by show ((nI 31 * (nI 12 + (nI (i2 + 1)))) + nI 18) + (nI i1) = _; simp only [nI_add, pk_mul]) (by omega) (by decide)) dX11_layRoom_185 (fun H locs hP hD hS => ?_)
                  rw [nx_cl (show ((31 * (12 + (nI (i2 + 1)))) + 18) + (nI i1) = nI (((31 * (12 + ((i2 + 1)))) + 18) + (i1)) from by show ((nI 31 * (nI 12 + (nI (i2 + 1)))) + nI 18) + (nI i1) = _; simp only [nI_add, pk_mul]) (by omega)] at hP hD
                  replace hP : va_P (dC, dI) vwCl (wM h a cI cB cZ F (va_up M 46 (upd (upd (L_lay3 F M p0 i1 (upd (upd (L_lay2 F M p0 i1) (1 + (i1)) 1) ((31 * (18 + (i1))) + 30) (((M 42) i1) - 1)) i2) (((31 * (1 + (i1))) + 12) + ((i2 + 1))) 1) (((31 * (12 + ((i2 + 1)))) + 18) + (i1)) 1))) H := hP
                  replace hD : va_D A (wM h a cI cB cZ F (va_up M 46 (upd (upd (L_lay3 F M p0 i1 (upd (upd (L_lay2 F M p0 i1) (1 + (i1)) 1) ((31 * (18 + (i1))) + 30) (((M 42) i1) - 1)) i2) (((31 * (1 + (i1))) + 12) + ((i2 + 1))) 1) (((31 * (12 + ((i2 + 1)))) + 18) + (i1)) 1))) := hD
                  refine lv_iinc (v := nI ((i2 + 1) + 1)) (lv' := [(3, .int (nI ((i2 + 1) + 1))), (4, .int (if ((p0 >>> ((nI (i2 + 1)) &&& 31)) &&& 1) = 1 then (1 : Int32) else 0)), (2, .int (nI i1)), (0, .ref h), (1, .int p0)]) hx hb dX11_layRoom_186 hl (k := 1) rfl (nI_1 (i2 + 1)) (by decide) rfl (fun ls hl => ?_)
                  refine lv_goto (tgt := 91) hx hb dX11_layRoom_189 (by decide) ?_
                  have e9 : L_lay3 F M p0 i1 (upd (upd (L_lay2 F M p0 i1) (1 + (i1)) 1) ((31 * (18 + (i1))) + 30) (((M 42) i1) - 1)) (i2 + 1) = upd (upd (L_lay3 F M p0 i1 (upd (upd (L_lay2 F M p0 i1) (1 + (i1)) 1) ((31 * (18 + (i1))) + 30) (((M 42) i1) - 1)) i2) (((31 * (1 + (i1))) + 12) + ((i2 + 1))) 1) (((31 * (12 + ((i2 + 1)))) + 18) + (i1)) 1 := by rw [L_lay3]; rw [if_pos c25, if_neg c27, if_pos c31]
                  refine kk2 ls H locs (show lv_has ls 5 [(3, .int (nI ((i2 + 1) + 1))), (2, .int (nI i1)), (0, .ref h), (1, .int p0)] from ?_) (show va_P (dC, dI) vwCl (wM h a cI cB cZ F (va_up M 46 (L_lay3 F M p0 i1 (upd (upd (L_lay2 F M p0 i1) (1 + (i1)) 1) ((31 * (18 + (i1))) + 30) (((M 42) i1) - 1)) (i2 + 1)))) H from ?_) (show va_D A (wM h a cI cB cZ F (va_up M 46 (L_lay3 F M p0 i1 (upd (upd (L_lay2 F M p0 i1) (1 + (i1)) 1) ((31 * (18 + (i1))) + 30) (((M 42) i1) - 1)) (i2 + 1)))) from ?_) hS
                  · exact lv_sub hl [0, 2, 3, 4] rfl
                  · rw [e9]; exact hP
                  · rw [e9]; exact hD
          · replace hl : lv_has ls 5 [(3, .int (nI (5 + 1))), (2, .int (nI i1)), (0, .ref h), (1, .int p0)] := hl
            replace hP : va_P (dC, dI) vwCl (wM h a cI cB cZ F (va_up M 46 (L_lay3 F M p0 i1 (upd (upd (L_lay2 F M p0 i1) (1 + (i1)) 1) ((31 * (18 + (i1))) + 30) (((M 42) i1) - 1)) 5))) H := hP
            replace hD : va_D A (wM h a cI cB cZ F (va_up M 46 (L_lay3 F M p0 i1 (upd (upd (L_lay2 F M p0 i1) (1 + (i1)) 1) ((31 * (18 + (i1))) + 30) (((M 42) i1) - 1)) 5))) := hD
            refine lv_iload_n hx hb dX11_layRoom_91 rfl (lv_at hl 0 rfl) ?_
            refine lv_bipush (v := 6) hx hb dX11_layRoom_92 (by decide) ?_
            refine lv_icmp_ge (tgt := 192) hx hb dX11_layRoom_94 (by decide) (fun _ => ?_) (fun c => absurd (lb_y (N := 6) (by decide)) c)
            refine lv_iinc (v := nI (i1 + 1)) (lv' := [(2, .int (nI (i1 + 1))), (3, .int (nI (5 + 1))), (0, .ref h), (1, .int p0)]) hx hb dX11_layRoom_192 hl (k := 1) rfl (nI_1 i1) (by decide) rfl (fun ls hl => ?_)
            refine lv_goto (tgt := 24) hx hb dX11_layRoom_195 (by decide) ?_
            have e9 : L_lay2 F M p0 (i1 + 1) = (L_lay3 F M p0 i1 (upd (upd (L_lay2 F M p0 i1) (1 + (i1)) 1) ((31 * (18 + (i1))) + 30) (((M 42) i1) - 1)) 5) := by rw [L_lay2]; rw [if_pos c1, if_neg c17]
            refine kk1 ls H locs (show lv_has ls 5 [(2, .int (nI (i1 + 1))), (0, .ref h), (1, .int p0)] from ?_) (show va_P (dC, dI) vwCl (wM h a cI cB cZ F (va_up M 46 (L_lay2 F M p0 (i1 + 1)))) H from ?_) (show va_D A (wM h a cI cB cZ F (va_up M 46 (L_lay2 F M p0 (i1 + 1)))) from ?_) hS
            · exact lv_sub hl [0, 2, 3] rfl
            · rw [e9]; exact hP
            · rw [e9]; exact hD
    · replace hl : lv_has ls 5 [(2, .int (nI 12)), (0, .ref h), (1, .int p0)] := hl
      replace hP : va_P (dC, dI) vwCl (wM h a cI cB cZ F (va_up M 46 (L_lay2 F M p0 12))) H := hP
      replace hD : va_D A (wM h a cI cB cZ F (va_up M 46 (L_lay2 F M p0 12))) := hD
      refine lv_iload_n hx hb dX11_layRoom_24 rfl (lv_at hl 0 rfl) ?_
      refine lv_bipush (v := 12) hx hb dX11_layRoom_25 (by decide) ?_
      refine lv_icmp_ge (tgt := 198) hx hb dX11_layRoom_27 (by decide) (fun _ => ?_) (fun c => absurd (lb_y (by decide)) c)
      exact W.vret hx hb hr (fun t ht hW => ⟨⟨(F, va_up M 46 (L_lay2 F M p0 12)), rfl, by unfold s_X11_layRoom; rfl, ⟨by rw [ht]; exact hP, va_K.moved hW.alike hK⟩, hD⟩, hS.F ht⟩) hS.2.2 dX11_layRoom_198
