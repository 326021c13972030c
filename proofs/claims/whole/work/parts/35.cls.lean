
theorem ix_inF {x : Int32} {n N : Nat} (h : x = -9 ∨ ∃ j, j < n ∧ x = nI j) (hne : ¬ x = -9) (hn : n ≤ N ∧ N < 2 ^ 31) : x.toNatClampNeg < N := by
  rcases h with h | ⟨j, h1, h2⟩
  · exact absurd h hne
  · rw [h2, nI_clamp (by omega)]; omega
theorem ib_m1 {x : Int32} (h : 0 ≤ x ∧ x ≤ 2) (c : ¬ x ≤ 0) : vp_in (x - 1) 3 := by
  have h1 := ib_le.mp h.2
  have h2 := ib_lt.mp (Int32.not_le.mp c)
  have e2 : (2 : Int32).toInt = 2 := by decide
  rw [e2] at h1
  rw [ib_0] at h2
  exact vp_in_iff.mpr (by rw [ib_sub (by rw [ib_1]; omega) (by rw [ib_1]; omega), ib_1]; omega)
theorem ib_p1 {x : Int32} (h : 0 ≤ x ∧ x ≤ 2) (c : ¬ 2 ≤ x) : vp_in (x + 1) 3 := by
  have h1 := ib_le.mp h.1
  have h2 := ib_lt.mp (Int32.not_le.mp c)
  have e2 : (2 : Int32).toInt = 2 := by decide
  rw [e2] at h2
  rw [ib_0] at h1
  exact vp_in_iff.mpr (by rw [ib_add (by rw [ib_1]; omega) (by rw [ib_1]; omega), ib_1]; omega)

set_option maxHeartbeats 4000000 in
set_option maxRecDepth 100000 in
theorem c_X10_inForce12 (l : Launch) (dC : Nat → ClassId) (dI : Nat → Nat → Nat) (rl : List (Nat × Nat)) (ad : Nat × Nat → Nat) (cy : Nat → ClassId) (F : Nat → Int32) (M Y : Nat → Nat → Int32) (p1 : Int32) (hrl : ∀ r, r ∈ rl ↔ vd F r) (hI : iv F M) (hJ : jv F M) : Met l yX10_inForce wsX10_inForce ({ frames := 0, cells := 0, slots := 0, locals := 0 } : Room) (va_Pc [.ref (ad (12, 0)), .int (F 21), .int p1] (pC dC dI rl ad cy (eC ad cy F M Y))) (vp_Si (fun r => r = s_X11_inForce22 F M (F 21) p1)) 0 0 (fun _ => False) := by
  refine Met.ofW (cc := cX10_inForce) (maxL := 5) (ret := (some .int)) (by decide) rfl ?_
  intro p e s m args below meth c s₁ B hml hv
  obtain ⟨rfl, hP, hK, hN⟩ := hv
  have hx := B.exec
  have hb := B.bytes
  have hr := B.returns
  have hts := atoms_spec (ws := wsX10_inForce) B.pre
  have hown : s.vm.findClass RX10 = some m.cls := findClass_of_methodNamed B.named
  have hlocks := B.notSynchronized
  have hin9 : ∀ w ∈ wsX90, w ∈ wsX10_inForce := by decide +kernel
  have hl := lv_entry ([.ref (ad (12, 0)), .int (F 21), .int p1]) (n := 5) (Nat.le_of_ble_eq_true rfl)
  rw [lg_entry_eq]
  generalize (lg_sl ([.ref (ad (12, 0)), .int (F 21), .int p1]) ++ List.replicate (5 - (lg_sl ([.ref (ad (12, 0)), .int (F 21), .int p1])).length) Slot.unset).toArray = ls at hl ⊢
  have hl : lv_has ls 5 [(0, .ref (ad (12, 0))), (1, .int (F 21)), (2, .int p1)] := hl
  have hn21 : (F 21).toNatClampNeg ≤ 12 := lb_le (iv_21 hI) (by decide)
  refine lv_bipush (v := (-9)) hx hb dX10_inForce_0 (by decide) ?_
  refine lv_istore_n (lv' := [(3, .int (-9)), (0, .ref (ad (12, 0))), (1, .int (F 21)), (2, .int p1)]) hx hb dX10_inForce_2 rfl hl (by decide) rfl (fun ls hl => ?_)
  refine lv_iconst (v := 0) hx hb dX10_inForce_3 (by decide) ?_
  refine lv_istore (lv' := [(4, .int 0), (3, .int (-9)), (0, .ref (ad (12, 0))), (1, .int (F 21)), (2, .int p1)]) hx hb dX10_inForce_4 hl (by decide) rfl (fun ls hl => ?_)
  refine lp_for (N := (F 21).toNatClampNeg) (lv := fun i1 => [(4, .int (nI i1)), (3, .int (L_inForce22 F M (F 21) p1 i1)), (0, .ref (ad (12, 0))), (1, .int (F 21)), (2, .int p1)]) (lv_sub hl [0, 1, 2, 3, 4] rfl) (fun i1 hi1 ls hl kk1 => ?_) (fun ls hl => ?_)
  · replace hl : lv_has ls 5 [(4, .int (nI i1)), (3, .int (L_inForce22 F M (F 21) p1 i1)), (0, .ref (ad (12, 0))), (1, .int (F 21)), (2, .int p1)] := hl
    refine lv_iload hx hb dX10_inForce_6 (lv_at hl 0 rfl) ?_
    refine lv_iload_n hx hb dX10_inForce_8 rfl (lv_at hl 3 rfl) ?_
    refine lv_icmp_ge (tgt := 54) hx hb dX10_inForce_9 (by decide) (fun c => absurd c (lb_nc hi1)) (fun _ => ?_)
    refine lv_aload_n hx hb dX10_inForce_12 rfl (lv_at hl 2 rfl) ?_
    refine lv_iload hx hb dX10_inForce_13 (lv_at hl 0 rfl) ?_
    refine rg_aldq (r := (12, 0)) (v := .ref (ad (8, i1))) hx hb hK hP ((hrl _).mpr (vd_12 (by decide))) 4 en_12 rfl (vp_in_nI (show i1 < 12 by omega) (by decide)) (by rw [nI_clamp (show i1 < 2 ^ 31 by omega)]; rw [if_pos (by omega)]; rfl) dX10_inForce_15 ?_
    refine rg_get (D := (dC, dI)) (r := (8, i1)) (ci := 8) (v := .int (M 22 i1)) (C := RX9) (T := TX9) (N := 3) hx hb hts hin9 hown hK hP ((hrl _).mpr (vd_8 (by omega))) en_8 rfl 0 (by decide) (hts (.fieldLink RX10 293 "SocietyBook$Rule" "from" "I") (by decide +kernel)) (fun _ h9 => h9) rfl dX10_inForce_16 ?_
    refine lv_iload_n hx hb dX10_inForce_19 rfl (lv_at hl 4 rfl) ?_
    refine lv_icmp_gt (tgt := 48) hx hb dX10_inForce_20 (by decide) (fun c1 => ?_) (fun c1 => ?_)
    · refine lv_iinc (v := nI (i1 + 1)) (lv' := [(4, .int (nI (i1 + 1))), (3, .int (L_inForce22 F M (F 21) p1 i1)), (0, .ref (ad (12, 0))), (1, .int (F 21)), (2, .int p1)]) hx hb dX10_inForce_48 hl (k := 0) rfl (nI_1 i1) (by decide) rfl (fun ls hl => ?_)
      refine lv_goto (tgt := 6) hx hb dX10_inForce_51 (by decide) ?_
      have e9 : L_inForce22 F M (F 21) p1 (i1 + 1) = (L_inForce22 F M (F 21) p1 i1) := by rw [L_inForce22]; rw [if_pos c1]
      refine kk1 ls (show lv_has ls 5 [(4, .int (nI (i1 + 1))), (3, .int (L_inForce22 F M (F 21) p1 (i1 + 1))), (0, .ref (ad (12, 0))), (1, .int (F 21)), (2, .int p1)] from ?_)
      rw [e9]; exact lv_sub hl [0, 1, 2, 3, 4] rfl
    · refine lv_iload_n hx hb dX10_inForce_23 rfl (lv_at hl 1 rfl) ?_
      refine lv_bipush (v := (-9)) hx hb dX10_inForce_24 (by decide) ?_
      refine lv_icmp_eq (tgt := 45) hx hb dX10_inForce_26 (by decide) (fun c2 => ?_) (fun c2 => ?_)
      · refine lv_iload hx hb dX10_inForce_45 (lv_at hl 0 rfl) ?_
        refine lv_istore_n (lv' := [(3, .int (nI i1)), (4, .int (nI i1)), (0, .ref (ad (12, 0))), (1, .int (F 21)), (2, .int p1)]) hx hb dX10_inForce_47 rfl hl (by decide) rfl (fun ls hl => ?_)
        refine lv_iinc (v := nI (i1 + 1)) (lv' := [(4, .int (nI (i1 + 1))), (3, .int (nI i1)), (0, .ref (ad (12, 0))), (1, .int (F 21)), (2, .int p1)]) hx hb dX10_inForce_48 hl (k := 1) rfl (nI_1 i1) (by decide) rfl (fun ls hl => ?_)
        refine lv_goto (tgt := 6) hx hb dX10_inForce_51 (by decide) ?_
        have e9 : L_inForce22 F M (F 21) p1 (i1 + 1) = nI i1 := by rw [L_inForce22]; rw [if_neg c1]; rw [if_pos c2]
        refine kk1 ls (show lv_has ls 5 [(4, .int (nI (i1 + 1))), (3, .int (L_inForce22 F M (F 21) p1 (i1 + 1))), (0, .ref (ad (12, 0))), (1, .int (F 21)), (2, .int p1)] from ?_)
        rw [e9]; exact lv_sub hl [0, 1, 2, 3, 4] rfl
      · refine lv_aload_n hx hb dX10_inForce_29 rfl (lv_at hl 2 rfl) ?_
        refine lv_iload hx hb dX10_inForce_30 (lv_at hl 0 rfl) ?_
        refine rg_aldq (r := (12, 0)) (v := .ref (ad (8, i1))) hx hb hK hP ((hrl _).mpr (vd_12 (by decide))) 4 en_12 rfl (vp_in_nI (show i1 < 12 by omega) (by decide)) (by rw [nI_clamp (show i1 < 2 ^ 31 by omega)]; rw [if_pos (by omega)]; rfl) dX10_inForce_32 ?_
        refine rg_get (D := (dC, dI)) (r := (8, i1)) (ci := 8) (v := .int (M 22 i1)) (C := RX9) (T := TX9) (N := 3) hx hb hts hin9 hown hK hP ((hrl _).mpr (vd_8 (by omega))) en_8 rfl 0 (by decide) (hts (.fieldLink RX10 293 "SocietyBook$Rule" "from" "I") (by decide +kernel)) (fun _ h9 => h9) rfl dX10_inForce_33 ?_
        refine lv_aload_n hx hb dX10_inForce_36 rfl (lv_at hl 2 rfl) ?_
        refine lv_iload_n hx hb dX10_inForce_37 rfl (lv_at hl 1 rfl) ?_
        refine rg_aldq (r := (12, 0)) (v := .ref (ad (8, (L_inForce22 F M (F 21) p1 i1).toNatClampNeg))) hx hb hK hP ((hrl _).mpr (vd_12 (by decide))) 4 en_12 rfl (ib_inF (l_inForce22 F M (F 21) p1 i1 (by omega)) c2 ⟨by omega, by decide⟩) (by rw [if_pos (ix_inF (l_inForce22 F M (F 21) p1 i1 (by omega)) c2 ⟨by omega, by omega⟩)]; rfl) dX10_inForce_38 ?_
        refine rg_get (D := (dC, dI)) (r := (8, (L_inForce22 F M (F 21) p1 i1).toNatClampNeg)) (ci := 8) (v := .int (M 22 ((L_inForce22 F M (F 21) p1 i1).toNatClampNeg))) (C := RX9) (T := TX9) (N := 3) hx hb hts hin9 hown hK hP ((hrl _).mpr (vd_8 (ix_inF (l_inForce22 F M (F 21) p1 i1 (by omega)) c2 ⟨by omega, by omega⟩))) en_8 rfl 0 (by decide) (hts (.fieldLink RX10 293 "SocietyBook$Rule" "from" "I") (by decide +kernel)) (fun _ h9 => h9) rfl dX10_inForce_39 ?_
        refine lv_icmp_lt (tgt := 48) hx hb dX10_inForce_42 (by decide) (fun c3 => ?_) (fun c3 => ?_)
        · refine lv_iinc (v := nI (i1 + 1)) (lv' := [(4, .int (nI (i1 + 1))), (3, .int (L_inForce22 F M (F 21) p1 i1)), (0, .ref (ad (12, 0))), (1, .int (F 21)), (2, .int p1)]) hx hb dX10_inForce_48 hl (k := 0) rfl (nI_1 i1) (by decide) rfl (fun ls hl => ?_)
          refine lv_goto (tgt := 6) hx hb dX10_inForce_51 (by decide) ?_
          have e9 : L_inForce22 F M (F 21) p1 (i1 + 1) = (L_inForce22 F M (F 21) p1 i1) := by rw [L_inForce22]; rw [if_neg c1]; rw [if_neg c2]; rw [if_pos c3]
          refine kk1 ls (show lv_has ls 5 [(4, .int (nI (i1 + 1))), (3, .int (L_inForce22 F M (F 21) p1 (i1 + 1))), (0, .ref (ad (12, 0))), (1, .int (F 21)), (2, .int p1)] from ?_)
          rw [e9]; exact lv_sub hl [0, 1, 2, 3, 4] rfl
        · refine lv_iload hx hb dX10_inForce_45 (lv_at hl 0 rfl) ?_
          refine lv_istore_n (lv' := [(3, .int (nI i1)), (4, .int (nI i1)), (0, .ref (ad (12, 0))), (1, .int (F 21)), (2, .int p1)]) hx hb dX10_inForce_47 rfl hl (by decide) rfl (fun ls hl => ?_)
          refine lv_iinc (v := nI (i1 + 1)) (lv' := [(4, .int (nI (i1 + 1))), (3, .int (nI i1)), (0, .ref (ad (12, 0))), (1, .int (F 21)), (2, .int p1)]) hx hb dX10_inForce_48 hl (k := 1) rfl (nI_1 i1) (by decide) rfl (fun ls hl => ?_)
          refine lv_goto (tgt := 6) hx hb dX10_inForce_51 (by decide) ?_
          have e9 : L_inForce22 F M (F 21) p1 (i1 + 1) = nI i1 := by rw [L_inForce22]; rw [if_neg c1]; rw [if_neg c2]; rw [if_neg c3]
          refine kk1 ls (show lv_has ls 5 [(4, .int (nI (i1 + 1))), (3, .int (L_inForce22 F M (F 21) p1 (i1 + 1))), (0, .ref (ad (12, 0))), (1, .int (F 21)), (2, .int p1)] from ?_)
          rw [e9]; exact lv_sub hl [0, 1, 2, 3, 4] rfl
  · replace hl : lv_has ls 5 [(4, .int (nI (F 21).toNatClampNeg)), (3, .int (L_inForce22 F M (F 21) p1 (F 21).toNatClampNeg)), (0, .ref (ad (12, 0))), (1, .int (F 21)), (2, .int p1)] := hl
    refine lv_iload hx hb dX10_inForce_6 (lv_at hl 0 rfl) ?_
    refine lv_iload_n hx hb dX10_inForce_8 rfl (lv_at hl 3 rfl) ?_
    refine lv_icmp_ge (tgt := 54) hx hb dX10_inForce_9 (by decide) (fun _ => ?_) (fun c => absurd lb_yc c)
    refine lv_iload_n hx hb dX10_inForce_54 rfl (lv_at hl 1 rfl) ?_
    exact W.iret (v := (L_inForce22 F M (F 21) p1 (F 21).toNatClampNeg)) hx hb hr (fun t ht hW => ⟨(L_inForce22 F M (F 21) p1 (F 21).toNatClampNeg), rfl, by rfl, ht⟩) (fun _ h => by cases h) dX10_inForce_55

set_option maxHeartbeats 4000000 in
set_option maxRecDepth 100000 in
theorem c_X10_inForce13 (l : Launch) (dC : Nat → ClassId) (dI : Nat → Nat → Nat) (rl : List (Nat × Nat)) (ad : Nat × Nat → Nat) (cy : Nat → ClassId) (F : Nat → Int32) (M Y : Nat → Nat → Int32) (p1 : Int32) (hrl : ∀ r, r ∈ rl ↔ vd F r) (hI : iv F M) (hJ : jv F M) : Met l yX10_inForce wsX10_inForce ({ frames := 0, cells := 0, slots := 0, locals := 0 } : Room) (va_Pc [.ref (ad (13, 0)), .int (F 25), .int p1] (pC dC dI rl ad cy (eC ad cy F M Y))) (vp_Si (fun r => r = s_X11_inForce26 F M (F 25) p1)) 0 0 (fun _ => False) := by
  refine Met.ofW (cc := cX10_inForce) (maxL := 5) (ret := (some .int)) (by decide) rfl ?_
  intro p e s m args below meth c s₁ B hml hv
  obtain ⟨rfl, hP, hK, hN⟩ := hv
  have hx := B.exec
  have hb := B.bytes
  have hr := B.returns
  have hts := atoms_spec (ws := wsX10_inForce) B.pre
  have hown : s.vm.findClass RX10 = some m.cls := findClass_of_methodNamed B.named
  have hlocks := B.notSynchronized
  have hin0 : ∀ w ∈ wsX00, w ∈ wsX10_inForce := by decide +kernel
  have hl := lv_entry ([.ref (ad (13, 0)), .int (F 25), .int p1]) (n := 5) (Nat.le_of_ble_eq_true rfl)
  rw [lg_entry_eq]
  generalize (lg_sl ([.ref (ad (13, 0)), .int (F 25), .int p1]) ++ List.replicate (5 - (lg_sl ([.ref (ad (13, 0)), .int (F 25), .int p1])).length) Slot.unset).toArray = ls at hl ⊢
  have hl : lv_has ls 5 [(0, .ref (ad (13, 0))), (1, .int (F 25)), (2, .int p1)] := hl
  have hn25 : (F 25).toNatClampNeg ≤ 12 := lb_le (iv_25 hI) (by decide)
  refine lv_bipush (v := (-9)) hx hb dX10_inForce_0 (by decide) ?_
  refine lv_istore_n (lv' := [(3, .int (-9)), (0, .ref (ad (13, 0))), (1, .int (F 25)), (2, .int p1)]) hx hb dX10_inForce_2 rfl hl (by decide) rfl (fun ls hl => ?_)
  refine lv_iconst (v := 0) hx hb dX10_inForce_3 (by decide) ?_
  refine lv_istore (lv' := [(4, .int 0), (3, .int (-9)), (0, .ref (ad (13, 0))), (1, .int (F 25)), (2, .int p1)]) hx hb dX10_inForce_4 hl (by decide) rfl (fun ls hl => ?_)
  refine lp_for (N := (F 25).toNatClampNeg) (lv := fun i1 => [(4, .int (nI i1)), (3, .int (L_inForce26 F M (F 25) p1 i1)), (0, .ref (ad (13, 0))), (1, .int (F 25)), (2, .int p1)]) (lv_sub hl [0, 1, 2, 3, 4] rfl) (fun i1 hi1 ls hl kk1 => ?_) (fun ls hl => ?_)
  · replace hl : lv_has ls 5 [(4, .int (nI i1)), (3, .int (L_inForce26 F M (F 25) p1 i1)), (0, .ref (ad (13, 0))), (1, .int (F 25)), (2, .int p1)] := hl
    refine lv_iload hx hb dX10_inForce_6 (lv_at hl 0 rfl) ?_
    refine lv_iload_n hx hb dX10_inForce_8 rfl (lv_at hl 3 rfl) ?_
    refine lv_icmp_ge (tgt := 54) hx hb dX10_inForce_9 (by decide) (fun c => absurd c (lb_nc hi1)) (fun _ => ?_)
    refine lv_aload_n hx hb dX10_inForce_12 rfl (lv_at hl 2 rfl) ?_
    refine lv_iload hx hb dX10_inForce_13 (lv_at hl 0 rfl) ?_
    refine rg_aldq (r := (13, 0)) (v := .ref (ad (0, i1))) hx hb hK hP ((hrl _).mpr (vd_13 (by decide))) 5 en_13 rfl (vp_in_nI (show i1 < 12 by omega) (by decide)) (by rw [nI_clamp (show i1 < 2 ^ 31 by omega)]; rw [if_pos (by omega)]; rfl) dX10_inForce_15 ?_
    refine rg_get (D := (dC, dI)) (r := (0, i1)) (ci := 0) (v := .int (M 26 i1)) (C := RX0) (T := TX0) (N := 6) hx hb hts hin0 hown hK hP ((hrl _).mpr (vd_0 (by omega))) en_0 rfl 0 (by decide) (hts (.fieldLink RX10 293 "SocietyBook$Rule" "from" "I") (by decide +kernel)) (fun _ h9 => h9) rfl dX10_inForce_16 ?_
    refine lv_iload_n hx hb dX10_inForce_19 rfl (lv_at hl 4 rfl) ?_
    refine lv_icmp_gt (tgt := 48) hx hb dX10_inForce_20 (by decide) (fun c1 => ?_) (fun c1 => ?_)
    · refine lv_iinc (v := nI (i1 + 1)) (lv' := [(4, .int (nI (i1 + 1))), (3, .int (L_inForce26 F M (F 25) p1 i1)), (0, .ref (ad (13, 0))), (1, .int (F 25)), (2, .int p1)]) hx hb dX10_inForce_48 hl (k := 0) rfl (nI_1 i1) (by decide) rfl (fun ls hl => ?_)
      refine lv_goto (tgt := 6) hx hb dX10_inForce_51 (by decide) ?_
      have e9 : L_inForce26 F M (F 25) p1 (i1 + 1) = (L_inForce26 F M (F 25) p1 i1) := by rw [L_inForce26]; rw [if_pos c1]
      refine kk1 ls (show lv_has ls 5 [(4, .int (nI (i1 + 1))), (3, .int (L_inForce26 F M (F 25) p1 (i1 + 1))), (0, .ref (ad (13, 0))), (1, .int (F 25)), (2, .int p1)] from ?_)
      rw [e9]; exact lv_sub hl [0, 1, 2, 3, 4] rfl
    · refine lv_iload_n hx hb dX10_inForce_23 rfl (lv_at hl 1 rfl) ?_
      refine lv_bipush (v := (-9)) hx hb dX10_inForce_24 (by decide) ?_
      refine lv_icmp_eq (tgt := 45) hx hb dX10_inForce_26 (by decide) (fun c2 => ?_) (fun c2 => ?_)
      · refine lv_iload hx hb dX10_inForce_45 (lv_at hl 0 rfl) ?_
        refine lv_istore_n (lv' := [(3, .int (nI i1)), (4, .int (nI i1)), (0, .ref (ad (13, 0))), (1, .int (F 25)), (2, .int p1)]) hx hb dX10_inForce_47 rfl hl (by decide) rfl (fun ls hl => ?_)
        refine lv_iinc (v := nI (i1 + 1)) (lv' := [(4, .int (nI (i1 + 1))), (3, .int (nI i1)), (0, .ref (ad (13, 0))), (1, .int (F 25)), (2, .int p1)]) hx hb dX10_inForce_48 hl (k := 1) rfl (nI_1 i1) (by decide) rfl (fun ls hl => ?_)
        refine lv_goto (tgt := 6) hx hb dX10_inForce_51 (by decide) ?_
        have e9 : L_inForce26 F M (F 25) p1 (i1 + 1) = nI i1 := by rw [L_inForce26]; rw [if_neg c1]; rw [if_pos c2]
        refine kk1 ls (show lv_has ls 5 [(4, .int (nI (i1 + 1))), (3, .int (L_inForce26 F M (F 25) p1 (i1 + 1))), (0, .ref (ad (13, 0))), (1, .int (F 25)), (2, .int p1)] from ?_)
        rw [e9]; exact lv_sub hl [0, 1, 2, 3, 4] rfl
      · refine lv_aload_n hx hb dX10_inForce_29 rfl (lv_at hl 2 rfl) ?_
        refine lv_iload hx hb dX10_inForce_30 (lv_at hl 0 rfl) ?_
        refine rg_aldq (r := (13, 0)) (v := .ref (ad (0, i1))) hx hb hK hP ((hrl _).mpr (vd_13 (by decide))) 5 en_13 rfl (vp_in_nI (show i1 < 12 by omega) (by decide)) (by rw [nI_clamp (show i1 < 2 ^ 31 by omega)]; rw [if_pos (by omega)]; rfl) dX10_inForce_32 ?_
        refine rg_get (D := (dC, dI)) (r := (0, i1)) (ci := 0) (v := .int (M 26 i1)) (C := RX0) (T := TX0) (N := 6) hx hb hts hin0 hown hK hP ((hrl _).mpr (vd_0 (by omega))) en_0 rfl 0 (by decide) (hts (.fieldLink RX10 293 "SocietyBook$Rule" "from" "I") (by decide +kernel)) (fun _ h9 => h9) rfl dX10_inForce_33 ?_
        refine lv_aload_n hx hb dX10_inForce_36 rfl (lv_at hl 2 rfl) ?_
        refine lv_iload_n hx hb dX10_inForce_37 rfl (lv_at hl 1 rfl) ?_
        refine rg_aldq (r := (13, 0)) (v := .ref (ad (0, (L_inForce26 F M (F 25) p1 i1).toNatClampNeg))) hx hb hK hP ((hrl _).mpr (vd_13 (by decide))) 5 en_13 rfl (ib_inF (l_inForce26 F M (F 25) p1 i1 (by omega)) c2 ⟨by omega, by decide⟩) (by rw [if_pos (ix_inF (l_inForce26 F M (F 25) p1 i1 (by omega)) c2 ⟨by omega, by omega⟩)]; rfl) dX10_inForce_38 ?_
        refine rg_get (D := (dC, dI)) (r := (0, (L_inForce26 F M (F 25) p1 i1).toNatClampNeg)) (ci := 0) (v := .int (M 26 ((L_inForce26 F M (F 25) p1 i1).toNatClampNeg))) (C := RX0) (T := TX0) (N := 6) hx hb hts hin0 hown hK hP ((hrl _).mpr (vd_0 (ix_inF (l_inForce26 F M (F 25) p1 i1 (by omega)) c2 ⟨by omega, by omega⟩))) en_0 rfl 0 (by decide) (hts (.fieldLink RX10 293 "SocietyBook$Rule" "from" "I") (by decide +kernel)) (fun _ h9 => h9) rfl dX10_inForce_39 ?_
        refine lv_icmp_lt (tgt := 48) hx hb dX10_inForce_42 (by decide) (fun c3 => ?_) (fun c3 => ?_)
        · refine lv_iinc (v := nI (i1 + 1)) (lv' := [(4, .int (nI (i1 + 1))), (3, .int (L_inForce26 F M (F 25) p1 i1)), (0, .ref (ad (13, 0))), (1, .int (F 25)), (2, .int p1)]) hx hb dX10_inForce_48 hl (k := 0) rfl (nI_1 i1) (by decide) rfl (fun ls hl => ?_)
          refine lv_goto (tgt := 6) hx hb dX10_inForce_51 (by decide) ?_
          have e9 : L_inForce26 F M (F 25) p1 (i1 + 1) = (L_inForce26 F M (F 25) p1 i1) := by rw [L_inForce26]; rw [if_neg c1]; rw [if_neg c2]; rw [if_pos c3]
          refine kk1 ls (show lv_has ls 5 [(4, .int (nI (i1 + 1))), (3, .int (L_inForce26 F M (F 25) p1 (i1 + 1))), (0, .ref (ad (13, 0))), (1, .int (F 25)), (2, .int p1)] from ?_)
          rw [e9]; exact lv_sub hl [0, 1, 2, 3, 4] rfl
        · refine lv_iload hx hb dX10_inForce_45 (lv_at hl 0 rfl) ?_
          refine lv_istore_n (lv' := [(3, .int (nI i1)), (4, .int (nI i1)), (0, .ref (ad (13, 0))), (1, .int (F 25)), (2, .int p1)]) hx hb dX10_inForce_47 rfl hl (by decide) rfl (fun ls hl => ?_)
          refine lv_iinc (v := nI (i1 + 1)) (lv' := [(4, .int (nI (i1 + 1))), (3, .int (nI i1)), (0, .ref (ad (13, 0))), (1, .int (F 25)), (2, .int p1)]) hx hb dX10_inForce_48 hl (k := 1) rfl (nI_1 i1) (by decide) rfl (fun ls hl => ?_)
          refine lv_goto (tgt := 6) hx hb dX10_inForce_51 (by decide) ?_
          have e9 : L_inForce26 F M (F 25) p1 (i1 + 1) = nI i1 := by rw [L_inForce26]; rw [if_neg c1]; rw [if_neg c2]; rw [if_neg c3]
          refine kk1 ls (show lv_has ls 5 [(4, .int (nI (i1 + 1))), (3, .int (L_inForce26 F M (F 25) p1 (i1 + 1))), (0, .ref (ad (13, 0))), (1, .int (F 25)), (2, .int p1)] from ?_)
          rw [e9]; exact lv_sub hl [0, 1, 2, 3, 4] rfl
  · replace hl : lv_has ls 5 [(4, .int (nI (F 25).toNatClampNeg)), (3, .int (L_inForce26 F M (F 25) p1 (F 25).toNatClampNeg)), (0, .ref (ad (13, 0))), (1, .int (F 25)), (2, .int p1)] := hl
    refine lv_iload hx hb dX10_inForce_6 (lv_at hl 0 rfl) ?_
    refine lv_iload_n hx hb dX10_inForce_8 rfl (lv_at hl 3 rfl) ?_
    refine lv_icmp_ge (tgt := 54) hx hb dX10_inForce_9 (by decide) (fun _ => ?_) (fun c => absurd lb_yc c)
    refine lv_iload_n hx hb dX10_inForce_54 rfl (lv_at hl 1 rfl) ?_
    exact W.iret (v := (L_inForce26 F M (F 25) p1 (F 25).toNatClampNeg)) hx hb hr (fun t ht hW => ⟨(L_inForce26 F M (F 25) p1 (F 25).toNatClampNeg), rfl, by rfl, ht⟩) (fun _ h => by cases h) dX10_inForce_55

set_option maxHeartbeats 4000000 in
set_option maxRecDepth 100000 in
theorem c_X10_force (l : Launch) (dC : Nat → ClassId) (dI : Nat → Nat → Nat) (rl : List (Nat × Nat)) (ad : Nat × Nat → Nat) (cy : Nat → ClassId) (F : Nat → Int32) (M Y : Nat → Nat → Int32) (p0 : Int32) (hrl : ∀ r, r ∈ rl ↔ vd F r) (hI : iv F M) (hJ : jv F M) : Met l yX10_force wsX10_force ({ frames := 2, cells := 0, slots := 0, locals := 42 } : Room) (va_Pc [.ref (ad (9, 0)), .int p0] (pC dC dI rl ad cy (eC ad cy F M Y))) (vp_Si (fun r => r = (s_X11_force F M p0))) 0 0 (fun _ => False) := by
  refine Met.ofW (cc := cX10_force) (maxL := 2) (ret := (some .int)) (by decide) rfl ?_
  intro p e s m args below meth c s₁ B hml hv
  obtain ⟨rfl, hP, hK, hN⟩ := hv
  have hx := B.exec
  have hb := B.bytes
  have hr := B.returns
  have hts := atoms_spec (ws := wsX10_force) B.pre
  have hown : s.vm.findClass RX10 = some m.cls := findClass_of_methodNamed B.named
  have hlocks := B.notSynchronized
  have hin10 : ∀ w ∈ wsX100, w ∈ wsX10_force := by decide +kernel
  have hl := lv_entry ([.ref (ad (9, 0)), .int p0]) (n := 2) (Nat.le_of_ble_eq_true rfl)
  rw [lg_entry_eq]
  generalize (lg_sl ([.ref (ad (9, 0)), .int p0]) ++ List.replicate (2 - (lg_sl ([.ref (ad (9, 0)), .int p0])).length) Slot.unset).toArray = ls at hl ⊢
  have hl : lv_has ls 2 [(0, .ref (ad (9, 0))), (1, .int p0)] := hl
  refine lv_iload_n hx hb dX10_force_0 rfl (lv_at hl 1 rfl) ?_
  refine vp_callSi (W.runS (As := [.int p0]) (rest := []) ⟨hx, hb, hml, hown, hts⟩ (c_X10_isDay l p0) (va_cwS 1 hts gX10_force_X10_isDay rfl rfl rfl (by decide +kernel) ⟨Nat.le_of_ble_eq_true rfl, Nat.le_of_ble_eq_true rfl⟩) ⟨fun _ _ _ _ q => q, fun U hU hW => ⟨rfl, trivial⟩⟩ rfl rfl hl.1 rfl (lv_room (Nat.le_of_ble_eq_true rfl)) dX10_force_1 ⟨Nat.zero_le _, Nat.zero_le _⟩) (fun r hr9 => ?_)
  subst hr9
  refine lv_if_ne (tgt := 9) hx hb dX10_force_4 (by decide) (fun c1 => ?_) (fun c1 => ?_)
  · replace c1 := bo_t c1
    refine lv_aload_n hx hb dX10_force_9 rfl (lv_at hl 0 rfl) ?_
    refine rg_get (D := (dC, dI)) (r := (9, 0)) (ci := 9) (v := .ref (ad (12, 0))) (C := RX10) (T := TX10) (N := 19) hx hb hts hin10 hown hK hP ((hrl _).mpr (vd_9 (by decide))) en_9 rfl 6 (by decide) (hts (.fieldLink RX10 23 "SocietyBook" "statutes" "[LSocietyBook$Statute;") (by decide +kernel)) (fun _ h9 => h9) rfl dX10_force_10 ?_
    refine lv_aload_n hx hb dX10_force_13 rfl (lv_at hl 0 rfl) ?_
    refine rg_get (D := (dC, dI)) (r := (9, 0)) (ci := 9) (v := .int (F 21)) (C := RX10) (T := TX10) (N := 19) hx hb hts hin10 hown hK hP ((hrl _).mpr (vd_9 (by decide))) en_9 rfl 7 (by decide) (hts (.fieldLink RX10 158 "SocietyBook" "statuteCount" "I") (by decide +kernel)) (fun _ h9 => h9) rfl dX10_force_14 ?_
    refine lv_iload_n hx hb dX10_force_17 rfl (lv_at hl 1 rfl) ?_
    refine vp_callSi (W.runS (As := [.ref (ad (12, 0)), .int (F 21), .int p0]) (rest := []) ⟨hx, hb, hml, hown, hts⟩ (c_X10_inForce12 l dC dI rl ad cy F M Y  p0 hrl hI hJ ) (va_cwS 3 hts gX10_force_X10_inForce rfl rfl rfl (by decide +kernel) ⟨Nat.le_of_ble_eq_true rfl, Nat.le_of_ble_eq_true rfl⟩) ⟨pc_blind, fun U hU hW => ⟨rfl, by rw [hU]; exact hP, va_K.moved hW.alike hK, nst_w hW hN⟩⟩ rfl rfl hl.1 rfl (lv_room (Nat.le_of_ble_eq_true rfl)) dX10_force_18 ⟨Nat.zero_le _, Nat.zero_le _⟩) (fun r hr9 => ?_)
    subst hr9
    exact W.iret (v := s_X11_inForce22 F M (F 21) p0) hx hb hr (fun t ht hW => ⟨s_X11_inForce22 F M (F 21) p0, rfl, by unfold s_X11_force; rw [if_pos c1], ht⟩) (fun _ h => by cases h) dX10_force_21
  · replace c1 := bo_f c1
    refine lv_iconst (v := (-1)) hx hb dX10_force_7 (by decide) ?_
    exact W.iret (v := (-1)) hx hb hr (fun t ht hW => ⟨(-1), rfl, by unfold s_X11_force; rw [if_neg c1], ht⟩) (fun _ h => by cases h) dX10_force_8

set_option maxHeartbeats 4000000 in
set_option maxRecDepth 100000 in
theorem c_X5_admits (l : Launch) (dC : Nat → ClassId) (dI : Nat → Nat → Nat) (rl : List (Nat × Nat)) (ad : Nat × Nat → Nat) (cy : Nat → ClassId) (F : Nat → Int32) (M Y : Nat → Nat → Int32) (j : Nat) (p0 : Int32) (p1 : Int32) (hrl : ∀ r, r ∈ rl ↔ vd F r) (hI : iv F M) (hJ : jv F M) (hj : j < (F 7).toNatClampNeg) (hw2 : 0 ≤ p0 ∧ p0 ≤ 2) : Met l yX5_admits wsX5_admits ({ frames := 1, cells := 0, slots := 0, locals := 22 } : Room) (va_Pc [.ref (ad (5, j)), .int p0, .int p1] (pC dC dI rl ad cy (eC ad cy F M Y))) (vp_Si (fun r => r = (s_X11_mayNote F M (nI j) p0 p1))) 0 0 (fun _ => False) := by
  refine Met.ofW (cc := cX5_admits) (maxL := 4) (ret := (some .boolean)) (by decide) rfl ?_
  intro p e s m args below meth c s₁ B hml hv
  obtain ⟨rfl, hP, hK, hN⟩ := hv
  have hx := B.exec
  have hb := B.bytes
  have hr := B.returns
  have hts := atoms_spec (ws := wsX5_admits) B.pre
  have hown : s.vm.findClass RX5 = some m.cls := findClass_of_methodNamed B.named
  have hlocks := B.notSynchronized
  have hin5 : ∀ w ∈ wsX50, w ∈ wsX5_admits := by decide +kernel
  have hl := lv_entry ([.ref (ad (5, j)), .int p0, .int p1]) (n := 4) (Nat.le_of_ble_eq_true rfl)
  rw [lg_entry_eq]
  generalize (lg_sl ([.ref (ad (5, j)), .int p0, .int p1]) ++ List.replicate (4 - (lg_sl ([.ref (ad (5, j)), .int p0, .int p1])).length) Slot.unset).toArray = ls at hl ⊢
  have hl : lv_has ls 4 [(0, .ref (ad (5, j))), (1, .int p0), (2, .int p1)] := hl
  have hn7 : (F 7).toNatClampNeg ≤ 24 := lb_le (iv_7 hI) (by decide)
  have hjc : (nI j).toNatClampNeg = j := nI_clamp (by omega)
  refine lv_iload_n hx hb dX5_admits_0 rfl (lv_at hl 1 rfl) ?_
  refine lv_if_ne (tgt := 29) hx hb dX5_admits_1 (by decide) (fun c1 => ?_) (fun c1 => ?_)
  · refine lv_iload_n hx hb dX5_admits_29 rfl (lv_at hl 1 rfl) ?_
    refine lv_if_le (tgt := 54) hx hb dX5_admits_30 (by decide) (fun c => absurd c (Int32.not_le.mpr (Int32.lt_of_le_of_ne hw2.1 (fun q => c1 q.symm)))) (fun _ => ?_)
    refine lv_aload_n hx hb dX5_admits_33 rfl (lv_at hl 0 rfl) ?_
    refine lv_iload_n hx hb dX5_admits_34 rfl (lv_at hl 1 rfl) ?_
    refine lv_iconst (v := 1) hx hb dX5_admits_35 (by decide) ?_
    refine lv_isub hx hb dX5_admits_36 ?_
    refine vp_callSi (W.runV (As := [.int (p0 - 1)]) (rest := []) ⟨hx, hb, hml, hown, hts⟩ (c_X5_lastDay l dC dI rl ad cy F M Y j (p0 - 1) hrl hI hJ hj (ib_m1 hw2 (Int32.not_le.mpr (Int32.lt_of_le_of_ne hw2.1 (fun q => c1 q.symm))))) (cwV 1 hts gX5_admits_X5_lastDay rfl rfl rfl (by decide +kernel) ⟨Nat.le_of_ble_eq_true rfl, Nat.le_of_ble_eq_true rfl⟩) ⟨pc_blind, rg_recv hK hP ((hrl _).mpr (vd_5 hj)) (ci := 5) rfl en_5, fun U hU hW => ⟨rfl, by rw [hU]; exact hP, va_K.moved hW.alike hK, nst_w hW hN⟩⟩ rfl rfl hl.1 rfl (lv_room (Nat.le_of_ble_eq_true rfl)) dX5_admits_37 ⟨Nat.zero_le _, Nat.zero_le _⟩) (fun r hr9 => ?_)
    subst hr9
    refine lv_istore_n (lv' := [(3, .int (s_X11_lastOf F M (nI j) (p0 - 1) 30000)), (0, .ref (ad (5, j))), (1, .int p0), (2, .int p1)]) hx hb dX5_admits_40 rfl hl (by decide) rfl (fun ls hl => ?_)
    refine lv_iload_n hx hb dX5_admits_41 rfl (lv_at hl 0 rfl) ?_
    refine lv_bipush (v := (-9)) hx hb dX5_admits_42 (by decide) ?_
    refine lv_icmp_eq (tgt := 52) hx hb dX5_admits_44 (by decide) (fun c2 => ?_) (fun c2 => ?_)
    · refine lv_iconst (v := 0) hx hb dX5_admits_52 (by decide) ?_
      exact W.zret (v := 0) hx hb hr (rfl) (fun t ht hW => ⟨0, rfl, by unfold s_X11_mayNote; rw [hjc]; rw [if_neg c1]; rcases Classical.em (p0 = 2) with z0 | z0; (· rw [if_pos z0]; rw [if_pos (Int32.lt_of_le_of_ne hw2.1 (fun q => c1 q.symm))]; rw [if_pos c2]); (· rw [if_neg z0]; rw [if_pos (Int32.lt_of_le_of_ne hw2.1 (fun q => c1 q.symm))]; rw [if_pos c2]), ht⟩) (fun _ h => by cases h) dX5_admits_53
    · refine lv_iload_n hx hb dX5_admits_47 rfl (lv_at hl 3 rfl) ?_
      refine lv_iload_n hx hb dX5_admits_48 rfl (lv_at hl 0 rfl) ?_
      refine lv_icmp_ge (tgt := 54) hx hb dX5_admits_49 (by decide) (fun c3 => ?_) (fun c3 => ?_)
      · refine lv_iload_n hx hb dX5_admits_54 rfl (lv_at hl 2 rfl) ?_
        refine lv_iconst (v := 2) hx hb dX5_admits_55 (by decide) ?_
        refine lv_icmp_ge (tgt := 69) hx hb dX5_admits_56 (by decide) (fun c4 => ?_) (fun c4 => ?_)
        · refine lv_bipush (v := (-9)) hx hb dX5_admits_69 (by decide) ?_
          refine lv_istore_n (lv' := [(3, .int (-9)), (0, .ref (ad (5, j))), (1, .int p0), (2, .int p1)]) hx hb dX5_admits_71 rfl hl (by decide) rfl (fun ls hl => ?_)
          refine lv_iload_n hx hb dX5_admits_72 rfl (lv_at hl 0 rfl) ?_
          refine lv_bipush (v := (-9)) hx hb dX5_admits_73 (by decide) ?_
          refine lv_icmp_eq (tgt := 83) hx hb dX5_admits_75 (by decide) (fun _ => ?_) (fun c => absurd c (by decide))
          refine lv_iconst (v := 1) hx hb dX5_admits_83 (by decide) ?_
          refine lv_goto (tgt := 88) hx hb dX5_admits_84 (by decide) ?_
          exact W.zret (v := 1) hx hb hr (rfl) (fun t ht hW => ⟨1, rfl, by unfold s_X11_mayNote; rw [hjc]; rw [if_neg c1]; rw [if_pos (fu_t hw2 c4)]; rw [if_pos (Int32.lt_of_le_of_ne hw2.1 (fun q => c1 q.symm))]; rw [if_neg c2]; rw [if_neg (Int32.not_lt.mpr c3)], ht⟩) (fun _ h => by cases h) dX5_admits_88
        · refine lv_aload_n hx hb dX5_admits_59 rfl (lv_at hl 1 rfl) ?_
          refine lv_iload_n hx hb dX5_admits_60 rfl (lv_at hl 2 rfl) ?_
          refine lv_iconst (v := 1) hx hb dX5_admits_61 (by decide) ?_
          refine lv_iadd hx hb dX5_admits_62 ?_
          refine vp_callSi (W.runV (As := [.int (p0 + 1)]) (rest := []) ⟨hx, hb, hml, hown, hts⟩ (c_X5_lastDay l dC dI rl ad cy F M Y j (p0 + 1) hrl hI hJ hj (ib_p1 hw2 c4)) (cwV 1 hts gX5_admits_X5_lastDay rfl rfl rfl (by decide +kernel) ⟨Nat.le_of_ble_eq_true rfl, Nat.le_of_ble_eq_true rfl⟩) ⟨pc_blind, rg_recv hK hP ((hrl _).mpr (vd_5 hj)) (ci := 5) rfl en_5, fun U hU hW => ⟨rfl, by rw [hU]; exact hP, va_K.moved hW.alike hK, nst_w hW hN⟩⟩ rfl rfl hl.1 rfl (lv_room (Nat.le_of_ble_eq_true rfl)) dX5_admits_63 ⟨Nat.zero_le _, Nat.zero_le _⟩) (fun r hr9 => ?_)
          subst hr9
          refine lv_goto (tgt := 71) hx hb dX5_admits_66 (by decide) ?_
          refine lv_istore_n (lv' := [(3, .int (s_X11_lastOf F M (nI j) (p0 + 1) 30000)), (0, .ref (ad (5, j))), (1, .int p0), (2, .int p1)]) hx hb dX5_admits_71 rfl hl (by decide) rfl (fun ls hl => ?_)
          refine lv_iload_n hx hb dX5_admits_72 rfl (lv_at hl 0 rfl) ?_
          refine lv_bipush (v := (-9)) hx hb dX5_admits_73 (by decide) ?_
          refine lv_icmp_eq (tgt := 83) hx hb dX5_admits_75 (by decide) (fun c5 => ?_) (fun c5 => ?_)
          · refine lv_iconst (v := 1) hx hb dX5_admits_83 (by decide) ?_
            refine lv_goto (tgt := 88) hx hb dX5_admits_84 (by decide) ?_
            exact W.zret (v := 1) hx hb hr (rfl) (fun t ht hW => ⟨1, rfl, by unfold s_X11_mayNote; rw [hjc]; rw [if_neg c1]; rw [if_neg (fu_f c4)]; rw [if_pos (Int32.lt_of_le_of_ne hw2.1 (fun q => c1 q.symm))]; rw [if_neg c2]; rw [if_neg (Int32.not_lt.mpr c3)]; rw [if_pos c5], ht⟩) (fun _ h => by cases h) dX5_admits_88
          · refine lv_iload_n hx hb dX5_admits_78 rfl (lv_at hl 3 rfl) ?_
            refine lv_iload_n hx hb dX5_admits_79 rfl (lv_at hl 0 rfl) ?_
            refine lv_icmp_gt (tgt := 87) hx hb dX5_admits_80 (by decide) (fun c6 => ?_) (fun c6 => ?_)
            · refine lv_iconst (v := 0) hx hb dX5_admits_87 (by decide) ?_
              exact W.zret (v := 0) hx hb hr (rfl) (fun t ht hW => ⟨0, rfl, by unfold s_X11_mayNote; rw [hjc]; rw [if_neg c1]; rw [if_neg (fu_f c4)]; rw [if_pos (Int32.lt_of_le_of_ne hw2.1 (fun q => c1 q.symm))]; rw [if_neg c2]; rw [if_neg (Int32.not_lt.mpr c3)]; rw [if_neg c5]; rw [if_pos c6], ht⟩) (fun _ h => by cases h) dX5_admits_88
            · refine lv_iconst (v := 1) hx hb dX5_admits_83 (by decide) ?_
              refine lv_goto (tgt := 88) hx hb dX5_admits_84 (by decide) ?_
              exact W.zret (v := 1) hx hb hr (rfl) (fun t ht hW => ⟨1, rfl, by unfold s_X11_mayNote; rw [hjc]; rw [if_neg c1]; rw [if_neg (fu_f c4)]; rw [if_pos (Int32.lt_of_le_of_ne hw2.1 (fun q => c1 q.symm))]; rw [if_neg c2]; rw [if_neg (Int32.not_lt.mpr c3)]; rw [if_neg c5]; rw [if_neg c6], ht⟩) (fun _ h => by cases h) dX5_admits_88
      · refine lv_iconst (v := 0) hx hb dX5_admits_52 (by decide) ?_
        exact W.zret (v := 0) hx hb hr (rfl) (fun t ht hW => ⟨0, rfl, by unfold s_X11_mayNote; rw [hjc]; rw [if_neg c1]; rcases Classical.em (p0 = 2) with z0 | z0; (· rw [if_pos z0]; rw [if_pos (Int32.lt_of_le_of_ne hw2.1 (fun q => c1 q.symm))]; rw [if_neg c2]; rw [if_pos (Int32.not_le.mp c3)]); (· rw [if_neg z0]; rw [if_pos (Int32.lt_of_le_of_ne hw2.1 (fun q => c1 q.symm))]; rw [if_neg c2]; rw [if_pos (Int32.not_le.mp c3)]), ht⟩) (fun _ h => by cases h) dX5_admits_53
  · refine lv_aload_n hx hb dX5_admits_4 rfl (lv_at hl 0 rfl) ?_
    refine rg_get (D := (dC, dI)) (r := (5, j)) (ci := 5) (v := .int (M 8 j)) (C := RX5) (T := TX5) (N := 9) hx hb hts hin5 hown hK hP ((hrl _).mpr (vd_5 hj)) en_5 rfl 0 (by decide) (hts (.fieldLink RX5 30 "SocietyBook$Paper" "kind" "I") (by decide +kernel)) (fun _ h9 => h9) rfl dX5_admits_5 ?_
    refine lv_iconst (v := 2) hx hb dX5_admits_8 (by decide) ?_
    refine lv_icmp_ne (tgt := 29) hx hb dX5_admits_9 (by decide) (fun c7 => ?_) (fun c7 => ?_)
    · refine lv_iload_n hx hb dX5_admits_29 rfl (lv_at hl 1 rfl) ?_
      refine lv_if_le (tgt := 54) hx hb dX5_admits_30 (by decide) (fun _ => ?_) (fun c => absurd (show p0 ≤ 0 from by rw [c1]; decide) c)
      refine lv_iload_n hx hb dX5_admits_54 rfl (lv_at hl 1 rfl) ?_
      refine lv_iconst (v := 2) hx hb dX5_admits_55 (by decide) ?_
      refine lv_icmp_ge (tgt := 69) hx hb dX5_admits_56 (by decide) (fun c => absurd c (show ¬ (2 : Int32) ≤ p0 from by rw [c1]; decide)) (fun _ => ?_)
      refine lv_aload_n hx hb dX5_admits_59 rfl (lv_at hl 0 rfl) ?_
      refine lv_iload_n hx hb dX5_admits_60 rfl (lv_at hl 1 rfl) ?_
      refine lv_iconst (v := 1) hx hb dX5_admits_61 (by decide) ?_
      refine lv_iadd hx hb dX5_admits_62 ?_
      refine vp_callSi (W.runV (As := [.int (p0 + 1)]) (rest := []) ⟨hx, hb, hml, hown, hts⟩ (c_X5_lastDay l dC dI rl ad cy F M Y j (p0 + 1) hrl hI hJ hj (ib_p1 hw2 (show ¬ (2 : Int32) ≤ p0 from by rw [c1]; decide))) (cwV 1 hts gX5_admits_X5_lastDay rfl rfl rfl (by decide +kernel) ⟨Nat.le_of_ble_eq_true rfl, Nat.le_of_ble_eq_true rfl⟩) ⟨pc_blind, rg_recv hK hP ((hrl _).mpr (vd_5 hj)) (ci := 5) rfl en_5, fun U hU hW => ⟨rfl, by rw [hU]; exact hP, va_K.moved hW.alike hK, nst_w hW hN⟩⟩ rfl rfl hl.1 rfl (lv_room (Nat.le_of_ble_eq_true rfl)) dX5_admits_63 ⟨Nat.zero_le _, Nat.zero_le _⟩) (fun r hr9 => ?_)
      subst hr9
      refine lv_goto (tgt := 71) hx hb dX5_admits_66 (by decide) ?_
      refine lv_istore_n (lv' := [(3, .int (s_X11_lastOf F M (nI j) (p0 + 1) 30000)), (0, .ref (ad (5, j))), (1, .int p0), (2, .int p1)]) hx hb dX5_admits_71 rfl hl (by decide) rfl (fun ls hl => ?_)
      refine lv_iload_n hx hb dX5_admits_72 rfl (lv_at hl 0 rfl) ?_
      refine lv_bipush (v := (-9)) hx hb dX5_admits_73 (by decide) ?_
      refine lv_icmp_eq (tgt := 83) hx hb dX5_admits_75 (by decide) (fun c8 => ?_) (fun c8 => ?_)
      · refine lv_iconst (v := 1) hx hb dX5_admits_83 (by decide) ?_
        refine lv_goto (tgt := 88) hx hb dX5_admits_84 (by decide) ?_
        exact W.zret (v := 1) hx hb hr (rfl) (fun t ht hW => ⟨1, rfl, by unfold s_X11_mayNote; rw [hjc]; rw [if_pos c1]; rw [if_neg (show ¬ p0 = 2 from by rw [c1]; decide)]; rw [if_neg (show ¬ (0 : Int32) < p0 from by rw [c1]; decide)]; rw [if_neg c7]; rw [if_pos c8], ht⟩) (fun _ h => by cases h) dX5_admits_88
      · refine lv_iload_n hx hb dX5_admits_78 rfl (lv_at hl 3 rfl) ?_
        refine lv_iload_n hx hb dX5_admits_79 rfl (lv_at hl 0 rfl) ?_
        refine lv_icmp_gt (tgt := 87) hx hb dX5_admits_80 (by decide) (fun c9 => ?_) (fun c9 => ?_)
        · refine lv_iconst (v := 0) hx hb dX5_admits_87 (by decide) ?_
          exact W.zret (v := 0) hx hb hr (rfl) (fun t ht hW => ⟨0, rfl, by unfold s_X11_mayNote; rw [hjc]; rw [if_pos c1]; rw [if_neg (show ¬ p0 = 2 from by rw [c1]; decide)]; rw [if_neg (show ¬ (0 : Int32) < p0 from by rw [c1]; decide)]; rw [if_neg c7]; rw [if_neg c8]; rw [if_pos c9], ht⟩) (fun _ h => by cases h) dX5_admits_88
        · refine lv_iconst (v := 1) hx hb dX5_admits_83 (by decide) ?_
          refine lv_goto (tgt := 88) hx hb dX5_admits_84 (by decide) ?_
          exact W.zret (v := 1) hx hb hr (rfl) (fun t ht hW => ⟨1, rfl, by unfold s_X11_mayNote; rw [hjc]; rw [if_pos c1]; rw [if_neg (show ¬ p0 = 2 from by rw [c1]; decide)]; rw [if_neg (show ¬ (0 : Int32) < p0 from by rw [c1]; decide)]; rw [if_neg c7]; rw [if_neg c8]; rw [if_neg c9], ht⟩) (fun _ h => by cases h) dX5_admits_88
    · refine lv_iload_n hx hb dX5_admits_12 rfl (lv_at hl 2 rfl) ?_
      refine lv_aload_n hx hb dX5_admits_13 rfl (lv_at hl 0 rfl) ?_
      refine rg_get (D := (dC, dI)) (r := (5, j)) (ci := 5) (v := .int (M 13 j)) (C := RX5) (T := TX5) (N := 9) hx hb hts hin5 hown hK hP ((hrl _).mpr (vd_5 hj)) en_5 rfl 5 (by decide) (hts (.fieldLink RX5 15 "SocietyBook$Paper" "spanStart" "I") (by decide +kernel)) (fun _ h9 => h9) (show some (Value.int (if M 8 j = 2 then M 13 j else -9)) = some (Value.int (M 13 j)) from by rw [if_pos c7]) dX5_admits_14 ?_
      refine lv_aload_n hx hb dX5_admits_17 rfl (lv_at hl 0 rfl) ?_
      refine rg_get (D := (dC, dI)) (r := (5, j)) (ci := 5) (v := .int (M 14 j)) (C := RX5) (T := TX5) (N := 9) hx hb hts hin5 hown hK hP ((hrl _).mpr (vd_5 hj)) en_5 rfl 6 (by decide) (hts (.fieldLink RX5 18 "SocietyBook$Paper" "spanEnd" "I") (by decide +kernel)) (fun _ h9 => h9) (show some (Value.int (if M 8 j = 2 then M 14 j else -9)) = some (Value.int (M 14 j)) from by rw [if_pos c7]) dX5_admits_18 ?_
      refine vp_callSi (run_of (va_runSN (As := [.int p1, .int (M 13 j), .int (M 14 j)]) (rest := []) ⟨hx, hb, hml, hown, hts⟩ (c_X10_isWithin l p1 (M 13 j) (M 14 j)) ⟨va_cnB 3 hts gX5_admits_X10_isWithin_n58 rfl rfl rfl hN.2.1 (hts (.initialized RX10) (by decide +kernel)) (by decide +kernel) ⟨Nat.le_of_ble_eq_true rfl, Nat.le_of_ble_eq_true rfl⟩, hts (.static yX10_isWithin) (by decide +kernel), trivial⟩ ⟨fun _ _ _ _ q => q, fun U hU hW => ⟨rfl, trivial⟩⟩ rfl rfl hl.1 rfl (lv_room (Nat.le_of_ble_eq_true rfl)) dX5_admits_21 ⟨Nat.zero_le _, Nat.zero_le _⟩)) (fun r hr9 => ?_)
      subst hr9
      refine lv_if_ne (tgt := 29) hx hb dX5_admits_24 (by decide) (fun c10 => ?_) (fun c10 => ?_)
      · replace c10 := bo_t c10
        refine lv_iload_n hx hb dX5_admits_29 rfl (lv_at hl 1 rfl) ?_
        refine lv_if_le (tgt := 54) hx hb dX5_admits_30 (by decide) (fun _ => ?_) (fun c => absurd (show p0 ≤ 0 from by rw [c1]; decide) c)
        refine lv_iload_n hx hb dX5_admits_54 rfl (lv_at hl 1 rfl) ?_
        refine lv_iconst (v := 2) hx hb dX5_admits_55 (by decide) ?_
        refine lv_icmp_ge (tgt := 69) hx hb dX5_admits_56 (by decide) (fun c => absurd c (show ¬ (2 : Int32) ≤ p0 from by rw [c1]; decide)) (fun _ => ?_)
        refine lv_aload_n hx hb dX5_admits_59 rfl (lv_at hl 0 rfl) ?_
        refine lv_iload_n hx hb dX5_admits_60 rfl (lv_at hl 1 rfl) ?_
        refine lv_iconst (v := 1) hx hb dX5_admits_61 (by decide) ?_
        refine lv_iadd hx hb dX5_admits_62 ?_
        refine vp_callSi (W.runV (As := [.int (p0 + 1)]) (rest := []) ⟨hx, hb, hml, hown, hts⟩ (c_X5_lastDay l dC dI rl ad cy F M Y j (p0 + 1) hrl hI hJ hj (ib_p1 hw2 (show ¬ (2 : Int32) ≤ p0 from by rw [c1]; decide))) (cwV 1 hts gX5_admits_X5_lastDay rfl rfl rfl (by decide +kernel) ⟨Nat.le_of_ble_eq_true rfl, Nat.le_of_ble_eq_true rfl⟩) ⟨pc_blind, rg_recv hK hP ((hrl _).mpr (vd_5 hj)) (ci := 5) rfl en_5, fun U hU hW => ⟨rfl, by rw [hU]; exact hP, va_K.moved hW.alike hK, nst_w hW hN⟩⟩ rfl rfl hl.1 rfl (lv_room (Nat.le_of_ble_eq_true rfl)) dX5_admits_63 ⟨Nat.zero_le _, Nat.zero_le _⟩) (fun r hr9 => ?_)
        subst hr9
        refine lv_goto (tgt := 71) hx hb dX5_admits_66 (by decide) ?_
        refine lv_istore_n (lv' := [(3, .int (s_X11_lastOf F M (nI j) (p0 + 1) 30000)), (0, .ref (ad (5, j))), (1, .int p0), (2, .int p1)]) hx hb dX5_admits_71 rfl hl (by decide) rfl (fun ls hl => ?_)
        refine lv_iload_n hx hb dX5_admits_72 rfl (lv_at hl 0 rfl) ?_
        refine lv_bipush (v := (-9)) hx hb dX5_admits_73 (by decide) ?_
        refine lv_icmp_eq (tgt := 83) hx hb dX5_admits_75 (by decide) (fun c11 => ?_) (fun c11 => ?_)
        · refine lv_iconst (v := 1) hx hb dX5_admits_83 (by decide) ?_
          refine lv_goto (tgt := 88) hx hb dX5_admits_84 (by decide) ?_
          exact W.zret (v := 1) hx hb hr (rfl) (fun t ht hW => ⟨1, rfl, by unfold s_X11_mayNote; rw [hjc]; rw [if_pos c1]; rw [if_neg (show ¬ p0 = 2 from by rw [c1]; decide)]; rw [if_neg (show ¬ (0 : Int32) < p0 from by rw [c1]; decide)]; rw [if_pos c7]; rw [if_pos c10]; rw [if_pos c11], ht⟩) (fun _ h => by cases h) dX5_admits_88
        · refine lv_iload_n hx hb dX5_admits_78 rfl (lv_at hl 3 rfl) ?_
          refine lv_iload_n hx hb dX5_admits_79 rfl (lv_at hl 0 rfl) ?_
          refine lv_icmp_gt (tgt := 87) hx hb dX5_admits_80 (by decide) (fun c12 => ?_) (fun c12 => ?_)
          · refine lv_iconst (v := 0) hx hb dX5_admits_87 (by decide) ?_
            exact W.zret (v := 0) hx hb hr (rfl) (fun t ht hW => ⟨0, rfl, by unfold s_X11_mayNote; rw [hjc]; rw [if_pos c1]; rw [if_neg (show ¬ p0 = 2 from by rw [c1]; decide)]; rw [if_neg (show ¬ (0 : Int32) < p0 from by rw [c1]; decide)]; rw [if_pos c7]; rw [if_pos c10]; rw [if_neg c11]; rw [if_pos c12], ht⟩) (fun _ h => by cases h) dX5_admits_88
          · refine lv_iconst (v := 1) hx hb dX5_admits_83 (by decide) ?_
            refine lv_goto (tgt := 88) hx hb dX5_admits_84 (by decide) ?_
            exact W.zret (v := 1) hx hb hr (rfl) (fun t ht hW => ⟨1, rfl, by unfold s_X11_mayNote; rw [hjc]; rw [if_pos c1]; rw [if_neg (show ¬ p0 = 2 from by rw [c1]; decide)]; rw [if_neg (show ¬ (0 : Int32) < p0 from by rw [c1]; decide)]; rw [if_pos c7]; rw [if_pos c10]; rw [if_neg c11]; rw [if_neg c12], ht⟩) (fun _ h => by cases h) dX5_admits_88
      · replace c10 := bo_f c10
        refine lv_iconst (v := 0) hx hb dX5_admits_27 (by decide) ?_
        exact W.zret (v := 0) hx hb hr (rfl) (fun t ht hW => ⟨0, rfl, by unfold s_X11_mayNote; rw [hjc]; rw [if_pos c1]; rw [if_neg (show ¬ p0 = 2 from by rw [c1]; decide)]; rw [if_neg (show ¬ (0 : Int32) < p0 from by rw [c1]; decide)]; rw [if_pos c7]; rw [if_neg c10], ht⟩) (fun _ h => by cases h) dX5_admits_28
