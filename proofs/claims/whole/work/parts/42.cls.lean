
theorem lp_forI {p : Program} {l : Launch} {e : Env} {R : Room} {s : State} {m : MethodId} {args : Array Value} {below : List Frame} {meth : Method} {c : Code} {H : Heap} {locs : List Loc} {cells slots : Nat} {Q : State → Prop} {pc nL N : Nat} {I : Nat → Prop} {lv : Nat → List (Nat × Value)} {ls : Array Slot} (i0 : I 0) (h0 : lv_has ls nL (lv 0))
    (step : ∀ i, i < N → I i → ∀ ls : Array Slot, lv_has ls nL (lv i) → (I (i + 1) → ∀ ls' : Array Slot, lv_has ls' nL (lv (i + 1)) → W p l e R s m args below meth c H locs cells slots Q (F0 m pc ls' [])) → W p l e R s m args below meth c H locs cells slots Q (F0 m pc ls []))
    (exit : I N → ∀ ls : Array Slot, lv_has ls nL (lv N) → W p l e R s m args below meth c H locs cells slots Q (F0 m pc ls [])) : W p l e R s m args below meth c H locs cells slots Q (F0 m pc ls []) := by
  have key : ∀ n i, i + n = N → I i → ∀ ls : Array Slot, lv_has ls nL (lv i) → W p l e R s m args below meth c H locs cells slots Q (F0 m pc ls []) := by
    intro n
    induction n with
    | zero => intro i hi hI ls hl; rw [Nat.add_zero] at hi; subst hi; exact exit hI ls hl
    | succ n ih => intro i hi hI ls hl; exact step i (by omega) hI ls hl (fun hI' ls' hl' => ih (i + 1) (by omega) hI' ls' hl')
  exact key N 0 (Nat.zero_add N) i0 ls h0
theorem hp_one {F : Nat → Int32} {M : Nat → Nat → Int32} {p0 p1 : Int32} {i : Nat} (h : L_hasPrinted F M p0 p1 i = 1) : ∀ n, i ≤ n → L_hasPrinted F M p0 p1 n = 1 := by
  intro n
  induction n with
  | zero => intro hn; have : i = 0 := by omega
            subst this; exact h
  | succ n ih =>
    intro hn
    by_cases c : i = n + 1
    · rw [← c]; exact h
    · have h1 := ih (by omega)
      have h2 : ¬ L_hasPrinted F M p0 p1 n = 0 := by rw [h1]; decide
      rw [L_hasPrinted]
      repeat' split
      all_goals first | rfl | (exfalso; exact h2 (by assumption))

set_option maxHeartbeats 4000000 in
set_option maxRecDepth 100000 in
theorem c_X3_hadTooSoon (l : Launch) (dC : Nat → ClassId) (dI : Nat → Nat → Nat) (rl : List (Nat × Nat)) (ad : Nat × Nat → Nat) (cy : Nat → ClassId) (F : Nat → Int32) (M Y : Nat → Nat → Int32) (j : Nat) (p0 : Int32) (p1 : Int32) (hrl : ∀ r, r ∈ rl ↔ vd F r) (hI : iv F M) (hJ : jv F M) (hj : j < 4) (hf : vp_in p0 16) : Met l yX3_hadTooSoon wsX3_hadTooSoon ({ frames := 0, cells := 0, slots := 0, locals := 0 } : Room) (va_Pc [.ref (ad (3, j)), .int p0, .int p1] (pC dC dI rl ad cy (eC ad cy F M Y))) (vp_Si (fun r => r = if (0 < (ct_A (M 39) (M 40) j p0.toNatClampNeg (F 38).toNatClampNeg)) ∧ ((p1 - (ls_A (M 39) (M 40) (M 41) j p0.toNatClampNeg (F 38).toNatClampNeg)) < (M 36 j)) then 1 else 0)) 0 0 (fun _ => False) := by
  refine Met.ofW (cc := cX3_hadTooSoon) (maxL := 3) (ret := (some .boolean)) (by decide) rfl ?_
  intro p e s m args below meth c s₁ B hml hv
  obtain ⟨rfl, hP, hK, hN⟩ := hv
  have hx := B.exec
  have hb := B.bytes
  have hr := B.returns
  have hts := atoms_spec (ws := wsX3_hadTooSoon) B.pre
  have hown : s.vm.findClass RX3 = some m.cls := findClass_of_methodNamed B.named
  have hlocks := B.notSynchronized
  have hin3 : ∀ w ∈ wsX30, w ∈ wsX3_hadTooSoon := by decide +kernel
  have hl := lv_entry ([.ref (ad (3, j)), .int p0, .int p1]) (n := 3) (Nat.le_of_ble_eq_true rfl)
  rw [lg_entry_eq]
  generalize (lg_sl ([.ref (ad (3, j)), .int p0, .int p1]) ++ List.replicate (3 - (lg_sl ([.ref (ad (3, j)), .int p0, .int p1])).length) Slot.unset).toArray = ls at hl ⊢
  have hl : lv_has ls 3 [(0, .ref (ad (3, j))), (1, .int p0), (2, .int p1)] := hl
  refine lv_aload_n hx hb dX3_hadTooSoon_0 rfl (lv_at hl 0 rfl) ?_
  refine rg_get (D := (dC, dI)) (r := (3, j)) (ci := 3) (v := .ref (ad (22, j))) (C := RX3) (T := TX3) (N := 4) hx hb hts hin3 hown hK hP ((hrl _).mpr (vd_3 hj)) en_3 rfl 2 (by decide) (hts (.fieldLink RX3 15 "SocietyBook$Medal" "times" "[I") (by decide +kernel)) (fun _ h9 => h9) rfl dX3_hadTooSoon_1 ?_
  refine lv_iload_n hx hb dX3_hadTooSoon_4 rfl (lv_at hl 1 rfl) ?_
  refine rg_iald (r := (22, j)) (v := ct_A (M 39) (M 40) j p0.toNatClampNeg (F 38).toNatClampNeg) hx hb hK hP ((hrl _).mpr (vd_22 hj)) 0 en_22 rfl hf (by exact if_pos (ib_cl hf).2) dX3_hadTooSoon_5 ?_
  refine lv_if_le (tgt := 28) hx hb dX3_hadTooSoon_6 (by decide) (fun c1 => ?_) (fun c1 => ?_)
  · refine lv_iconst (v := 0) hx hb dX3_hadTooSoon_28 (by decide) ?_
    exact W.zret (v := 0) hx hb hr (rfl) (fun t ht hW => ⟨0, rfl, by exact (if_neg (fun q => absurd c1 (Int32.not_le.mpr q.1))).symm, ht⟩) (fun _ h => by cases h) dX3_hadTooSoon_29
  · refine lv_iload_n hx hb dX3_hadTooSoon_9 rfl (lv_at hl 2 rfl) ?_
    refine lv_aload_n hx hb dX3_hadTooSoon_10 rfl (lv_at hl 0 rfl) ?_
    refine rg_get (D := (dC, dI)) (r := (3, j)) (ci := 3) (v := .ref (ad (23, j))) (C := RX3) (T := TX3) (N := 4) hx hb hts hin3 hown hK hP ((hrl _).mpr (vd_3 hj)) en_3 rfl 3 (by decide) (hts (.fieldLink RX3 19 "SocietyBook$Medal" "lastDays" "[I") (by decide +kernel)) (fun _ h9 => h9) rfl dX3_hadTooSoon_11 ?_
    refine lv_iload_n hx hb dX3_hadTooSoon_14 rfl (lv_at hl 1 rfl) ?_
    refine rg_iald (r := (23, j)) (v := ls_A (M 39) (M 40) (M 41) j p0.toNatClampNeg (F 38).toNatClampNeg) hx hb hK hP ((hrl _).mpr (vd_23 hj)) 0 en_23 rfl hf (by exact if_pos (ib_cl hf).2) dX3_hadTooSoon_15 ?_
    refine lv_isub hx hb dX3_hadTooSoon_16 ?_
    refine lv_aload_n hx hb dX3_hadTooSoon_17 rfl (lv_at hl 0 rfl) ?_
    refine rg_get (D := (dC, dI)) (r := (3, j)) (ci := 3) (v := .int (M 36 j)) (C := RX3) (T := TX3) (N := 4) hx hb hts hin3 hown hK hP ((hrl _).mpr (vd_3 hj)) en_3 rfl 0 (by decide) (hts (.fieldLink RX3 22 "SocietyBook$Medal" "gap" "I") (by decide +kernel)) (fun _ h9 => h9) rfl dX3_hadTooSoon_18 ?_
    refine lv_icmp_ge (tgt := 28) hx hb dX3_hadTooSoon_21 (by decide) (fun c2 => ?_) (fun c2 => ?_)
    · refine lv_iconst (v := 0) hx hb dX3_hadTooSoon_28 (by decide) ?_
      exact W.zret (v := 0) hx hb hr (rfl) (fun t ht hW => ⟨0, rfl, by exact (if_neg (fun q => absurd c2 (Int32.not_le.mpr q.2))).symm, ht⟩) (fun _ h => by cases h) dX3_hadTooSoon_29
    · refine lv_iconst (v := 1) hx hb dX3_hadTooSoon_24 (by decide) ?_
      refine lv_goto (tgt := 29) hx hb dX3_hadTooSoon_25 (by decide) ?_
      exact W.zret (v := 1) hx hb hr (rfl) (fun t ht hW => ⟨1, rfl, by exact (if_pos ⟨Int32.not_le.mp c1, Int32.not_le.mp c2⟩).symm, ht⟩) (fun _ h => by cases h) dX3_hadTooSoon_29

set_option maxHeartbeats 4000000 in
set_option maxRecDepth 100000 in
theorem c_X10_hasPrinted (l : Launch) (dC : Nat → ClassId) (dI : Nat → Nat → Nat) (rl : List (Nat × Nat)) (ad : Nat × Nat → Nat) (cy : Nat → ClassId) (F : Nat → Int32) (M Y : Nat → Nat → Int32) (k : Nat) (p0 : Int32) (hrl : ∀ r, r ∈ rl ↔ vd F r) (hI : iv F M) (hJ : jv F M) (hk : k < 4) : Met l yX10_hasPrinted wsX10_hasPrinted ({ frames := 1, cells := 0, slots := 0, locals := 22 } : Room) (va_Pc [.ref (ad (9, 0)), .int p0, .int (M 37 k)] (pC dC dI rl ad cy (eC ad cy F M Y))) (vp_Si (fun r => r = s_X11_hasPrinted F M (nI k) p0)) 0 0 (fun _ => False) := by
  refine Met.ofW (cc := cX10_hasPrinted) (maxL := 5) (ret := (some .boolean)) (by decide) rfl ?_
  intro p e s m args below meth c s₁ B hml hv
  obtain ⟨rfl, hP, hK, hN⟩ := hv
  have hx := B.exec
  have hb := B.bytes
  have hr := B.returns
  have hts := atoms_spec (ws := wsX10_hasPrinted) B.pre
  have hown : s.vm.findClass RX10 = some m.cls := findClass_of_methodNamed B.named
  have hlocks := B.notSynchronized
  have hin10 : ∀ w ∈ wsX100, w ∈ wsX10_hasPrinted := by decide +kernel
  have hin5 : ∀ w ∈ wsX50, w ∈ wsX10_hasPrinted := by decide +kernel
  have hl := lv_entry ([.ref (ad (9, 0)), .int p0, .int (M 37 k)]) (n := 5) (Nat.le_of_ble_eq_true rfl)
  rw [lg_entry_eq]
  generalize (lg_sl ([.ref (ad (9, 0)), .int p0, .int (M 37 k)]) ++ List.replicate (5 - (lg_sl ([.ref (ad (9, 0)), .int p0, .int (M 37 k)])).length) Slot.unset).toArray = ls at hl ⊢
  have hl : lv_has ls 5 [(0, .ref (ad (9, 0))), (1, .int p0), (2, .int (M 37 k))] := hl
  have hn7 : (F 7).toNatClampNeg ≤ 24 := lb_le (iv_7 hI) (by decide)
  have hkc : (nI k).toNatClampNeg = k := nI_clamp (by omega)
  refine lv_iconst (v := 0) hx hb dX10_hasPrinted_0 (by decide) ?_
  refine lv_istore_n (lv' := [(3, .int 0), (0, .ref (ad (9, 0))), (1, .int p0), (2, .int (M 37 k))]) hx hb dX10_hasPrinted_1 rfl hl (by decide) rfl (fun ls hl => ?_)
  refine lp_forI (N := (F 7).toNatClampNeg) (I := fun i1 => L_hasPrinted F M (nI k) p0 i1 = 0) (lv := fun i1 => [(3, .int (nI i1)), (0, .ref (ad (9, 0))), (1, .int p0), (2, .int (M 37 k))]) rfl (lv_sub hl [0, 1, 2, 3] rfl) (fun i1 hi1 hv1 ls hl kk1 => ?_) (fun hv1 ls hl => ?_)
  · replace hl : lv_has ls 5 [(3, .int (nI i1)), (0, .ref (ad (9, 0))), (1, .int p0), (2, .int (M 37 k))] := hl
    refine lv_iload_n hx hb dX10_hasPrinted_2 rfl (lv_at hl 0 rfl) ?_
    refine lv_aload_n hx hb dX10_hasPrinted_3 rfl (lv_at hl 1 rfl) ?_
    refine rg_get (D := (dC, dI)) (r := (9, 0)) (ci := 9) (v := .int (F 7)) (C := RX10) (T := TX10) (N := 19) hx hb hts hin10 hown hK hP ((hrl _).mpr (vd_9 (by decide))) en_9 rfl 4 (by decide) (hts (.fieldLink RX10 91 "SocietyBook" "paperCount" "I") (by decide +kernel)) (fun _ h9 => h9) rfl dX10_hasPrinted_4 ?_
    refine lv_icmp_ge (tgt := 61) hx hb dX10_hasPrinted_7 (by decide) (fun c => absurd c (lb_nc hi1)) (fun _ => ?_)
    refine lv_aload_n hx hb dX10_hasPrinted_10 rfl (lv_at hl 1 rfl) ?_
    refine rg_get (D := (dC, dI)) (r := (9, 0)) (ci := 9) (v := .ref (ad (11, 0))) (C := RX10) (T := TX10) (N := 19) hx hb hts hin10 hown hK hP ((hrl _).mpr (vd_9 (by decide))) en_9 rfl 3 (by decide) (hts (.fieldLink RX10 17 "SocietyBook" "papers" "[LSocietyBook$Paper;") (by decide +kernel)) (fun _ h9 => h9) rfl dX10_hasPrinted_11 ?_
    refine lv_iload_n hx hb dX10_hasPrinted_14 rfl (lv_at hl 0 rfl) ?_
    refine rg_aldq (r := (11, 0)) (v := .ref (ad (5, i1))) hx hb hK hP ((hrl _).mpr (vd_11 (by decide))) 3 en_11 rfl (vp_in_nI (show i1 < 24 by omega) (by decide)) (by rw [nI_clamp (show i1 < 2 ^ 31 by omega)]; rw [if_pos (by omega)]; rfl) dX10_hasPrinted_15 ?_
    refine lv_iconst (v := 2) hx hb dX10_hasPrinted_16 (by decide) ?_
    refine vp_callSi (W.runV (As := [.int 2]) (rest := []) ⟨hx, hb, hml, hown, hts⟩ (c_X5_lastDay l dC dI rl ad cy F M Y i1 2 hrl hI hJ (by omega) (ib_lit (by decide))) (cwV 1 hts gX10_hasPrinted_X5_lastDay rfl rfl rfl (by decide +kernel) ⟨Nat.le_of_ble_eq_true rfl, Nat.le_of_ble_eq_true rfl⟩) ⟨pc_blind, rg_recv hK hP ((hrl _).mpr (vd_5 (by omega))) (ci := 5) rfl en_5, fun U hU hW => ⟨rfl, by rw [hU]; exact hP, va_K.moved hW.alike hK, nst_w hW hN⟩⟩ rfl rfl hl.1 rfl (lv_room (Nat.le_of_ble_eq_true rfl)) dX10_hasPrinted_17 ⟨Nat.zero_le _, Nat.zero_le _⟩) (fun r hr9 => ?_)
    subst hr9
    refine lv_istore (lv' := [(4, .int (s_X11_lastOf F M (nI i1) 2 30000)), (3, .int (nI i1)), (0, .ref (ad (9, 0))), (1, .int p0), (2, .int (M 37 k))]) hx hb dX10_hasPrinted_20 hl (by decide) rfl (fun ls hl => ?_)
    refine lv_aload_n hx hb dX10_hasPrinted_22 rfl (lv_at hl 2 rfl) ?_
    refine rg_get (D := (dC, dI)) (r := (9, 0)) (ci := 9) (v := .ref (ad (11, 0))) (C := RX10) (T := TX10) (N := 19) hx hb hts hin10 hown hK hP ((hrl _).mpr (vd_9 (by decide))) en_9 rfl 3 (by decide) (hts (.fieldLink RX10 17 "SocietyBook" "papers" "[LSocietyBook$Paper;") (by decide +kernel)) (fun _ h9 => h9) rfl dX10_hasPrinted_23 ?_
    refine lv_iload_n hx hb dX10_hasPrinted_26 rfl (lv_at hl 1 rfl) ?_
    refine rg_aldq (r := (11, 0)) (v := .ref (ad (5, i1))) hx hb hK hP ((hrl _).mpr (vd_11 (by decide))) 3 en_11 rfl (vp_in_nI (show i1 < 24 by omega) (by decide)) (by rw [nI_clamp (show i1 < 2 ^ 31 by omega)]; rw [if_pos (by omega)]; rfl) dX10_hasPrinted_27 ?_
    refine rg_get (D := (dC, dI)) (r := (5, i1)) (ci := 5) (v := .int (M 9 i1)) (C := RX5) (T := TX5) (N := 9) hx hb hts hin5 hown hK hP ((hrl _).mpr (vd_5 (by omega))) en_5 rfl 1 (by decide) (hts (.fieldLink RX10 121 "SocietyBook$Paper" "author" "I") (by decide +kernel)) (fun _ h9 => h9) rfl dX10_hasPrinted_28 ?_
    refine lv_iload_n hx hb dX10_hasPrinted_31 rfl (lv_at hl 3 rfl) ?_
    refine lv_icmp_ne (tgt := 55) hx hb dX10_hasPrinted_32 (by decide) (fun c1 => ?_) (fun c1 => ?_)
    · refine lv_iinc (v := nI (i1 + 1)) (lv' := [(3, .int (nI (i1 + 1))), (4, .int (s_X11_lastOf F M (nI i1) 2 30000)), (0, .ref (ad (9, 0))), (1, .int p0), (2, .int (M 37 k))]) hx hb dX10_hasPrinted_55 hl (k := 1) rfl (nI_1 i1) (by decide) rfl (fun ls hl => ?_)
      refine lv_goto (tgt := 2) hx hb dX10_hasPrinted_58 (by decide) ?_
      exact kk1 (by show L_hasPrinted F M (nI k) p0 (i1 + 1) = 0; rw [L_hasPrinted, hkc]; rw [if_neg c1]; rw [if_pos hv1]) ls (lv_sub hl [0, 2, 3, 4] rfl)
    · refine lv_iload hx hb dX10_hasPrinted_35 (lv_at hl 0 rfl) ?_
      refine lv_bipush (v := (-9)) hx hb dX10_hasPrinted_37 (by decide) ?_
      refine lv_icmp_eq (tgt := 55) hx hb dX10_hasPrinted_39 (by decide) (fun c2 => ?_) (fun c2 => ?_)
      · refine lv_iinc (v := nI (i1 + 1)) (lv' := [(3, .int (nI (i1 + 1))), (4, .int (s_X11_lastOf F M (nI i1) 2 30000)), (0, .ref (ad (9, 0))), (1, .int p0), (2, .int (M 37 k))]) hx hb dX10_hasPrinted_55 hl (k := 1) rfl (nI_1 i1) (by decide) rfl (fun ls hl => ?_)
        refine lv_goto (tgt := 2) hx hb dX10_hasPrinted_58 (by decide) ?_
        exact kk1 (by show L_hasPrinted F M (nI k) p0 (i1 + 1) = 0; rw [L_hasPrinted, hkc]; rw [if_pos c1]; rw [if_pos hv1]; rw [if_pos c2]) ls (lv_sub hl [0, 2, 3, 4] rfl)
      · refine lv_aload_n hx hb dX10_hasPrinted_42 rfl (lv_at hl 2 rfl) ?_
        refine rg_get (D := (dC, dI)) (r := (9, 0)) (ci := 9) (v := .int (F 3)) (C := RX10) (T := TX10) (N := 19) hx hb hts hin10 hown hK hP ((hrl _).mpr (vd_9 (by decide))) en_9 rfl 0 (by decide) (hts (.fieldLink RX10 65 "SocietyBook" "today" "I") (by decide +kernel)) (fun _ h9 => h9) rfl dX10_hasPrinted_43 ?_
        refine lv_iload hx hb dX10_hasPrinted_46 (lv_at hl 0 rfl) ?_
        refine lv_isub hx hb dX10_hasPrinted_48 ?_
        refine lv_iload_n hx hb dX10_hasPrinted_49 rfl (lv_at hl 4 rfl) ?_
        refine lv_icmp_gt (tgt := 55) hx hb dX10_hasPrinted_50 (by decide) (fun c3 => ?_) (fun c3 => ?_)
        · refine lv_iinc (v := nI (i1 + 1)) (lv' := [(3, .int (nI (i1 + 1))), (4, .int (s_X11_lastOf F M (nI i1) 2 30000)), (0, .ref (ad (9, 0))), (1, .int p0), (2, .int (M 37 k))]) hx hb dX10_hasPrinted_55 hl (k := 1) rfl (nI_1 i1) (by decide) rfl (fun ls hl => ?_)
          refine lv_goto (tgt := 2) hx hb dX10_hasPrinted_58 (by decide) ?_
          exact kk1 (by show L_hasPrinted F M (nI k) p0 (i1 + 1) = 0; rw [L_hasPrinted, hkc]; rw [if_pos c1]; rw [if_pos hv1]; rw [if_neg c2]; rw [if_pos c3]) ls (lv_sub hl [0, 2, 3, 4] rfl)
        · refine lv_iconst (v := 1) hx hb dX10_hasPrinted_53 (by decide) ?_
          exact W.zret (v := 1) hx hb hr (rfl) (fun t ht hW => ⟨1, rfl, by exact (hp_one (i := i1 + 1) (by rw [L_hasPrinted, hkc]; rw [if_pos c1]; rw [if_pos hv1]; rw [if_neg c2]; rw [if_neg c3]) _ (by omega)).symm, ht⟩) (fun _ h => by cases h) dX10_hasPrinted_54
  · replace hl : lv_has ls 5 [(3, .int (nI (F 7).toNatClampNeg)), (0, .ref (ad (9, 0))), (1, .int p0), (2, .int (M 37 k))] := hl
    refine lv_iload_n hx hb dX10_hasPrinted_2 rfl (lv_at hl 0 rfl) ?_
    refine lv_aload_n hx hb dX10_hasPrinted_3 rfl (lv_at hl 1 rfl) ?_
    refine rg_get (D := (dC, dI)) (r := (9, 0)) (ci := 9) (v := .int (F 7)) (C := RX10) (T := TX10) (N := 19) hx hb hts hin10 hown hK hP ((hrl _).mpr (vd_9 (by decide))) en_9 rfl 4 (by decide) (hts (.fieldLink RX10 91 "SocietyBook" "paperCount" "I") (by decide +kernel)) (fun _ h9 => h9) rfl dX10_hasPrinted_4 ?_
    refine lv_icmp_ge (tgt := 61) hx hb dX10_hasPrinted_7 (by decide) (fun _ => ?_) (fun c => absurd lb_yc c)
    refine lv_iconst (v := 0) hx hb dX10_hasPrinted_61 (by decide) ?_
    exact W.zret (v := 0) hx hb hr (rfl) (fun t ht hW => ⟨0, rfl, by exact hv1.symm, ht⟩) (fun _ h => by cases h) dX10_hasPrinted_62
