theorem ib_31 {x : Int32} {k : Nat} (h : vp_in x 31) (hk : k < 31) : vp_in (31 * x + nI k) 961 := by
  have a1 := vp_in_iff.mp h
  have e31 : (31 : Int32).toInt = 31 := by decide
  have ek : (nI k).toInt = k := nI_toInt (by omega)
  have e1 : (31 * x).toInt = 31 * x.toInt := by rw [ib_mul (by rw [e31]; omega) (by rw [e31]; omega), e31]
  have e2 : (31 * x + nI k).toInt = 31 * x.toInt + k := by rw [ib_add (by rw [e1, ek]; omega) (by rw [e1, ek]; omega), e1, ek]
  exact vp_in_iff.mpr (by rw [e2]; omega)
theorem ib_31b {x y : Int32} (h : vp_in x 31) (hk : vp_in y 31) : vp_in (31 * x + y) 961 := by
  obtain ⟨k, h1, h2⟩ := vp_in_of hk (by decide)
  rw [h2]
  exact ib_31 h h1
theorem n31_ex : ∃ n : Nat, n = 31 := ⟨31, rfl⟩
noncomputable def n31 : Nat := Classical.choose n31_ex
theorem n31_eq : n31 = 31 := Classical.choose_spec n31_ex
theorem lb_n31 {i : Nat} (h : i < n31) : ¬ (31 : Int32) ≤ nI i := lb_n (N := 31) (by decide) (by rw [n31_eq] at h; exact h)
theorem wM_s46 {h : Nat} {a : Nat → Nat} {cI cB cZ : ClassId} {F : Nat → Int32} {X : Nat → Nat → Int32} {R R' : Nat → Int32} : List.set (wM h a cI cB cZ F (va_up X 46 R)) 37 (a 46, .inl (cI, 961, .inl R')) = wM h a cI cB cZ F (va_up X 46 R') := rfl
theorem lb_y31 : (31 : Int32) ≤ nI n31 := by rw [n31_eq]; decide

def L_go1 (F : Nat → Int32) (M : Nat → Nat → Int32)  : Nat → (Nat → Int32)
  | 0 => M 47
  | i1 + 1 =>
    upd (L_go1 F M i1) i1 (-9)
def L_go3 (F : Nat → Int32) (M : Nat → Nat → Int32)  (i1 : Nat) (z0 : Int32) (z1 : (Nat → Int32)) (z2 : (Nat → Int32)) : Nat → Int32 × (Nat → Int32) × (Nat → Int32)
  | 0 => (z0, z1, z2)
  | i2 + 1 =>
    if (((L_go3 F M i1 z0 z1 z2 i2).2.1) i2) = (-9) then (if ((M 46) (((31 * (((L_go3 F M i1 z0 z1 z2 i2).2.2) i1)) + (nI i2)).toNatClampNeg)) ≤ 0 then ((L_go3 F M i1 z0 z1 z2 i2).1, (L_go3 F M i1 z0 z1 z2 i2).2.1, (L_go3 F M i1 z0 z1 z2 i2).2.2) else
      (((L_go3 F M i1 z0 z1 z2 i2).1) + 1, upd ((L_go3 F M i1 z0 z1 z2 i2).2.1) i2 (((L_go3 F M i1 z0 z1 z2 i2).2.2) i1), upd ((L_go3 F M i1 z0 z1 z2 i2).2.2) (((L_go3 F M i1 z0 z1 z2 i2).1).toNatClampNeg) (nI i2))) else
    ((L_go3 F M i1 z0 z1 z2 i2).1, (L_go3 F M i1 z0 z1 z2 i2).2.1, (L_go3 F M i1 z0 z1 z2 i2).2.2)
noncomputable def L_go2 (F : Nat → Int32) (M : Nat → Nat → Int32)  : Nat → Int32 × (Nat → Int32) × (Nat → Int32)
  | 0 => (1, upd (L_go1 F M n31) 0 0, upd (M 48) 0 0)
  | i1 + 1 =>
    ((L_go3 F M i1 ((L_go2 F M i1).1) ((L_go2 F M i1).2.1) ((L_go2 F M i1).2.2) n31).1, (L_go3 F M i1 ((L_go2 F M i1).1) ((L_go2 F M i1).2.1) ((L_go2 F M i1).2.2) n31).2.1, (L_go3 F M i1 ((L_go2 F M i1).1) ((L_go2 F M i1).2.1) ((L_go2 F M i1).2.2) n31).2.2)
noncomputable def L_go4 (F : Nat → Int32) (M : Nat → Nat → Int32)  (N1 : Nat) : Nat → Int32 × (Nat → Int32)
  | 0 => (30, M 46)
  | i1 + 1 =>
    (((L_go2 F M N1).2.1) (((L_go4 F M N1 i1).1).toNatClampNeg), upd (upd ((L_go4 F M N1 i1).2) (((31 * (((L_go2 F M N1).2.1) (((L_go4 F M N1 i1).1).toNatClampNeg))) + ((L_go4 F M N1 i1).1)).toNatClampNeg) ((((L_go4 F M N1 i1).2) (((31 * (((L_go2 F M N1).2.1) (((L_go4 F M N1 i1).1).toNatClampNeg))) + ((L_go4 F M N1 i1).1)).toNatClampNeg)) - 1)) (((31 * ((L_go4 F M N1 i1).1)) + (((L_go2 F M N1).2.1) (((L_go4 F M N1 i1).1).toNatClampNeg))).toNatClampNeg) (((upd ((L_go4 F M N1 i1).2) (((31 * (((L_go2 F M N1).2.1) (((L_go4 F M N1 i1).1).toNatClampNeg))) + ((L_go4 F M N1 i1).1)).toNatClampNeg) ((((L_go4 F M N1 i1).2) (((31 * (((L_go2 F M N1).2.1) (((L_go4 F M N1 i1).1).toNatClampNeg))) + ((L_go4 F M N1 i1).1)).toNatClampNeg)) - 1)) (((31 * ((L_go4 F M N1 i1).1)) + (((L_go2 F M N1).2.1) (((L_go4 F M N1 i1).1).toNatClampNeg))).toNatClampNeg)) + 1))
noncomputable def s_X11_goes (F : Nat → Int32) (M : Nat → Nat → Int32)  (N1 : Nat) (N2 : Nat) : Int32 × ((Nat → Int32) × (Nat → Nat → Int32)) :=
  if (((L_go2 F M N1).2.1) 30) = (-9) then (0, (F, va_up (va_up M 47 ((L_go2 F M N1).2.1)) 48 ((L_go2 F M N1).2.2))) else
  (1, (F, va_up (va_up (va_up M 47 ((L_go2 F M N1).2.1)) 48 ((L_go2 F M N1).2.2)) 46 ((L_go4 F M N1 N2).2)))
set_option maxHeartbeats 4000000 in
set_option maxRecDepth 100000 in
theorem c_X11_goes (l : Launch) (dC : Nat → ClassId) (dI : Nat → Nat → Nat) (h : Nat) (a : Nat → Nat) (cI cB cZ : ClassId) (F : Nat → Int32) (M : Nat → Nat → Int32)  (A : Nat → Prop) (hD : va_D A (wM h a cI cB cZ F M)) (N1 N2 : Nat) (hN0 : N1 ≤ 31) (hN1 : ∀ i, i < N1 → ¬ (L_go2 F M i).1 ≤ nI i) (hN2 : (L_go2 F M N1).1 ≤ nI N1) (hB1 : ∀ i, i < N1 → ∀ j, j < n31 → vp_in ((L_go3 F M i (L_go2 F M i).1 (L_go2 F M i).2.1 (L_go2 F M i).2.2 j).2.2 i) 31) (hB2 : ∀ i, i < N1 → ∀ j, j < n31 → (L_go3 F M i (L_go2 F M i).1 (L_go2 F M i).2.1 (L_go2 F M i).2.2 j).2.1 j = -9 → vp_in (L_go3 F M i (L_go2 F M i).1 (L_go2 F M i).2.1 (L_go2 F M i).2.2 j).1 31) (hq : ¬ (L_go2 F M N1).2.1 30 = -9 → (∀ i, i < N2 → ¬ (L_go4 F M N1 i).1 = 0) ∧ (L_go4 F M N1 N2).1 = 0 ∧ ∀ i, i < N2 → vp_in (L_go4 F M N1 i).1 31 ∧ vp_in ((L_go2 F M N1).2.1 ((L_go4 F M N1 i).1).toNatClampNeg) 31) : Met l yX11_goes wsX11_goes ({ frames := 0, cells := 0, slots := 0, locals := 0 } : Room) (va_Pc [.ref h] (pM dC dI h a cI cB cZ F M)) (va_Qi (fun r u => (r, u) = s_X11_goes F M N1 N2) (qM A dC dI h a cI cB cZ) A) 0 0 A := by
  refine Met.ofW (cc := cX11_goes) (maxL := 4) (ret := (some .boolean)) (by decide) rfl ?_
  intro p e s m args below meth c s₁ B hml hv
  obtain ⟨rfl, hP, hK⟩ := hv
  have hx := B.exec
  have hb := B.bytes
  have hr := B.returns
  have hts := atoms_spec (ws := wsX11_goes) B.pre
  have hown : s.vm.findClass RX11 = some m.cls := findClass_of_methodNamed B.named
  have hlocks := B.notSynchronized
  have hin : ∀ w ∈ wsX110, w ∈ wsX11_goes := by decide +kernel
  have hS : va_S A s.heap s.heap [] := va_S.rf
  have hl := lv_entry ([.ref h]) (n := 4) (Nat.le_of_ble_eq_true rfl)
  rw [lg_entry_eq]
  generalize (lg_sl ([.ref h]) ++ List.replicate (4 - (lg_sl ([.ref h])).length) Slot.unset).toArray = ls at hl ⊢
  have hl : lv_has ls 4 [(0, .ref h)] := hl
  have hn31 := n31_eq
  refine lv_iconst (v := 0) hx hb dX11_goes_0 (by decide) ?_
  refine lv_istore_n (lv' := [(1, .int 0), (0, .ref h)]) hx hb dX11_goes_1 rfl hl (by decide) rfl (fun ls hl => ?_)
  refine lp_forH (N := n31) (lv := fun i1 => [(1, .int (nI i1)), (0, .ref h)]) (wd := fun i1 => wM h a cI cB cZ F (va_up M 47 (L_go1 F M i1))) hP hD hS (lv_sub hl [0, 1] rfl) (fun i1 hi1 ls H locs hl hP hD hS kk1 => ?_) (fun ls H locs hl hP hD hS => ?_)
  · replace hl : lv_has ls 4 [(1, .int (nI i1)), (0, .ref h)] := hl
    replace hP : va_P (dC, dI) vwCl (wM h a cI cB cZ F (va_up M 47 (L_go1 F M i1))) H := hP
    replace hD : va_D A (wM h a cI cB cZ F (va_up M 47 (L_go1 F M i1))) := hD
    refine lv_iload_n hx hb dX11_goes_2 rfl (lv_at hl 0 rfl) ?_
    refine lv_bipush (v := 31) hx hb dX11_goes_3 (by decide) ?_
    refine lv_icmp_ge (tgt := 22) hx hb dX11_goes_5 (by decide) (fun c => absurd c (lb_n31 hi1)) (fun _ => ?_)
    refine lv_aload_n hx hb dX11_goes_8 rfl (lv_at hl 1 rfl) ?_
    refine va_get (D := (dC, dI)) (ci := 10) (v := .ref (a 47)) (C := RX11) (T := TX11) (N := 49) hx hb hts hin hown hK hP 0 rfl rfl 47 (by decide) (hts (.fieldLink RX11 123 "SocietyBookModel" "from" "[I") (by decide +kernel)) (fun _ h9 => h9) rfl dX11_goes_9 ?_
    refine lv_iload_n hx hb dX11_goes_12 rfl (lv_at hl 0 rfl) ?_
    refine lv_bipush (v := (-9)) hx hb dX11_goes_13 (by decide) ?_
    refine va_iast (f := (L_go1 F M i1)) hx hb hK hP hD hS 38 0 rfl rfl (vp_in_nI (show i1 < 31 by omega) (by decide)) dX11_goes_15 (fun H locs hP hD hS => ?_)
    rw [nI_clamp (show i1 < 2 ^ 31 by omega)] at hP hD
    replace hP : va_P (dC, dI) vwCl (wM h a cI cB cZ F (va_up M 47 (upd (L_go1 F M i1) i1 (-9)))) H := hP
    replace hD : va_D A (wM h a cI cB cZ F (va_up M 47 (upd (L_go1 F M i1) i1 (-9)))) := hD
    refine lv_iinc (v := nI (i1 + 1)) (lv' := [(1, .int (nI (i1 + 1))), (0, .ref h)]) hx hb dX11_goes_16 hl (k := 0) rfl (nI_1 i1) (by decide) rfl (fun ls hl => ?_)
    refine lv_goto (tgt := 2) hx hb dX11_goes_19 (by decide) ?_
    have e9 : L_go1 F M (i1 + 1) = upd (L_go1 F M i1) i1 (-9) := by rw [L_go1]
    refine kk1 ls H locs (show lv_has ls 4 [(1, .int (nI (i1 + 1))), (0, .ref h)] from ?_) (show va_P (dC, dI) vwCl (wM h a cI cB cZ F (va_up M 47 (L_go1 F M (i1 + 1)))) H from ?_) (show va_D A (wM h a cI cB cZ F (va_up M 47 (L_go1 F M (i1 + 1)))) from ?_) hS
    · exact lv_sub hl [0, 1] rfl
    · rw [e9]; exact hP
    · rw [e9]; exact hD
  · replace hl : lv_has ls 4 [(1, .int (nI n31)), (0, .ref h)] := hl
    replace hP : va_P (dC, dI) vwCl (wM h a cI cB cZ F (va_up M 47 (L_go1 F M n31))) H := hP
    replace hD : va_D A (wM h a cI cB cZ F (va_up M 47 (L_go1 F M n31))) := hD
    refine lv_iload_n hx hb dX11_goes_2 rfl (lv_at hl 0 rfl) ?_
    refine lv_bipush (v := 31) hx hb dX11_goes_3 (by decide) ?_
    refine lv_icmp_ge (tgt := 22) hx hb dX11_goes_5 (by decide) (fun _ => ?_) (fun c => absurd lb_y31 c)
    refine lv_iconst (v := 1) hx hb dX11_goes_22 (by decide) ?_
    refine lv_istore_n (lv' := [(1, .int 1), (0, .ref h)]) hx hb dX11_goes_23 rfl hl (by decide) rfl (fun ls hl => ?_)
    refine lv_aload_n hx hb dX11_goes_24 rfl (lv_at hl 1 rfl) ?_
    refine va_get (D := (dC, dI)) (ci := 10) (v := .ref (a 48)) (C := RX11) (T := TX11) (N := 49) hx hb hts hin hown hK hP 0 rfl rfl 48 (by decide) (hts (.fieldLink RX11 126 "SocietyBookModel" "row" "[I") (by decide +kernel)) (fun _ h9 => h9) rfl dX11_goes_25 ?_
    refine lv_iconst (v := 0) hx hb dX11_goes_28 (by decide) ?_
    refine lv_iconst (v := 0) hx hb dX11_goes_29 (by decide) ?_
    refine va_iast (f := M 48) hx hb hK hP hD hS 39 0 rfl rfl (ib_lit (by decide)) dX11_goes_30 (fun H locs hP hD hS => ?_)
    rw [show (0 : Int32).toNatClampNeg = 0 from by decide] at hP hD
    replace hP : va_P (dC, dI) vwCl (wM h a cI cB cZ F (va_up (va_up M 47 (L_go1 F M n31)) 48 (upd (M 48) 0 0))) H := hP
    replace hD : va_D A (wM h a cI cB cZ F (va_up (va_up M 47 (L_go1 F M n31)) 48 (upd (M 48) 0 0))) := hD
    refine lv_aload_n hx hb dX11_goes_31 rfl (lv_at hl 1 rfl) ?_
    refine va_get (D := (dC, dI)) (ci := 10) (v := .ref (a 47)) (C := RX11) (T := TX11) (N := 49) hx hb hts hin hown hK hP 0 rfl rfl 47 (by decide) (hts (.fieldLink RX11 123 "SocietyBookModel" "from" "[I") (by decide +kernel)) (fun _ h9 => h9) rfl dX11_goes_32 ?_
    refine lv_iconst (v := 0) hx hb dX11_goes_35 (by decide) ?_
    refine lv_iconst (v := 0) hx hb dX11_goes_36 (by decide) ?_
    refine va_iast (f := (L_go1 F M n31)) hx hb hK hP hD hS 38 0 rfl rfl (ib_lit (by decide)) dX11_goes_37 (fun H locs hP hD hS => ?_)
    rw [show (0 : Int32).toNatClampNeg = 0 from by decide] at hP hD
    replace hP : va_P (dC, dI) vwCl (wM h a cI cB cZ F (va_up (va_up M 48 (upd (M 48) 0 0)) 47 (upd (L_go1 F M n31) 0 0))) H := hP
    replace hD : va_D A (wM h a cI cB cZ F (va_up (va_up M 48 (upd (M 48) 0 0)) 47 (upd (L_go1 F M n31) 0 0))) := hD
    refine lv_iconst (v := 0) hx hb dX11_goes_38 (by decide) ?_
    refine lv_istore_n (lv' := [(2, .int 0), (1, .int 1), (0, .ref h)]) hx hb dX11_goes_39 rfl hl (by decide) rfl (fun ls hl => ?_)
    refine lp_forH (N := N1) (lv := fun i1 => [(2, .int (nI i1)), (1, .int ((L_go2 F M i1).1)), (0, .ref h)]) (wd := fun i1 => wM h a cI cB cZ F (va_up (va_up M 47 ((L_go2 F M i1).2.1)) 48 ((L_go2 F M i1).2.2))) hP hD hS (lv_sub hl [0, 1, 2] rfl) (fun i1 hi1 ls H locs hl hP hD hS kk1 => ?_) (fun ls H locs hl hP hD hS => ?_)
    · replace hl : lv_has ls 4 [(2, .int (nI i1)), (1, .int ((L_go2 F M i1).1)), (0, .ref h)] := hl
      replace hP : va_P (dC, dI) vwCl (wM h a cI cB cZ F (va_up (va_up M 47 ((L_go2 F M i1).2.1)) 48 ((L_go2 F M i1).2.2))) H := hP
      replace hD : va_D A (wM h a cI cB cZ F (va_up (va_up M 47 ((L_go2 F M i1).2.1)) 48 ((L_go2 F M i1).2.2))) := hD
      refine lv_iload_n hx hb dX11_goes_40 rfl (lv_at hl 0 rfl) ?_
      refine lv_iload_n hx hb dX11_goes_41 rfl (lv_at hl 1 rfl) ?_
      refine lv_icmp_ge (tgt := 117) hx hb dX11_goes_42 (by decide) (fun c => absurd c (hN1 _ hi1)) (fun _ => ?_)
      refine lv_iconst (v := 0) hx hb dX11_goes_45 (by decide) ?_
      refine lv_istore_n (lv' := [(3, .int 0), (2, .int (nI i1)), (1, .int ((L_go2 F M i1).1)), (0, .ref h)]) hx hb dX11_goes_46 rfl hl (by decide) rfl (fun ls hl => ?_)
      refine lp_forH (N := n31) (lv := fun i2 => [(3, .int (nI i2)), (2, .int (nI i1)), (1, .int ((L_go3 F M i1 ((L_go2 F M i1).1) ((L_go2 F M i1).2.1) ((L_go2 F M i1).2.2) i2).1)), (0, .ref h)]) (wd := fun i2 => wM h a cI cB cZ F (va_up (va_up M 47 ((L_go3 F M i1 ((L_go2 F M i1).1) ((L_go2 F M i1).2.1) ((L_go2 F M i1).2.2) i2).2.1)) 48 ((L_go3 F M i1 ((L_go2 F M i1).1) ((L_go2 F M i1).2.1) ((L_go2 F M i1).2.2) i2).2.2))) hP hD hS (lv_sub hl [0, 1, 2, 3] rfl) (fun i2 hi2 ls H locs hl hP hD hS kk2 => ?_) (fun ls H locs hl hP hD hS => ?_)
      · replace hl : lv_has ls 4 [(3, .int (nI i2)), (2, .int (nI i1)), (1, .int ((L_go3 F M i1 ((L_go2 F M i1).1) ((L_go2 F M i1).2.1) ((L_go2 F M i1).2.2) i2).1)), (0, .ref h)] := hl
        replace hP : va_P (dC, dI) vwCl (wM h a cI cB cZ F (va_up (va_up M 47 ((L_go3 F M i1 ((L_go2 F M i1).1) ((L_go2 F M i1).2.1) ((L_go2 F M i1).2.2) i2).2.1)) 48 ((L_go3 F M i1 ((L_go2 F M i1).1) ((L_go2 F M i1).2.1) ((L_go2 F M i1).2.2) i2).2.2))) H := hP
        replace hD : va_D A (wM h a cI cB cZ F (va_up (va_up M 47 ((L_go3 F M i1 ((L_go2 F M i1).1) ((L_go2 F M i1).2.1) ((L_go2 F M i1).2.2) i2).2.1)) 48 ((L_go3 F M i1 ((L_go2 F M i1).1) ((L_go2 F M i1).2.1) ((L_go2 F M i1).2.2) i2).2.2))) := hD
        refine lv_iload_n hx hb dX11_goes_47 rfl (lv_at hl 0 rfl) ?_
        refine lv_bipush (v := 31) hx hb dX11_goes_48 (by decide) ?_
        refine lv_icmp_ge (tgt := 111) hx hb dX11_goes_50 (by decide) (fun c => absurd c (lb_n31 hi2)) (fun _ => ?_)
        refine lv_aload_n hx hb dX11_goes_53 rfl (lv_at hl 3 rfl) ?_
        refine va_get (D := (dC, dI)) (ci := 10) (v := .ref (a 47)) (C := RX11) (T := TX11) (N := 49) hx hb hts hin hown hK hP 0 rfl rfl 47 (by decide) (hts (.fieldLink RX11 123 "SocietyBookModel" "from" "[I") (by decide +kernel)) (fun _ h9 => h9) rfl dX11_goes_54 ?_
        refine lv_iload_n hx hb dX11_goes_57 rfl (lv_at hl 0 rfl) ?_
        refine va_iald (f := (L_go3 F M i1 ((L_go2 F M i1).1) ((L_go2 F M i1).2.1) ((L_go2 F M i1).2.2) i2).2.1) hx hb hK hP 38 0 rfl rfl (vp_in_nI (show i2 < 31 by omega) (by decide)) dX11_goes_58 ?_
        rw [nI_clamp (show i2 < 2 ^ 31 by omega)]
        refine lv_bipush (v := (-9)) hx hb dX11_goes_59 (by decide) ?_
        refine lv_icmp_ne (tgt := 105) hx hb dX11_goes_61 (by decide) (fun c1 => ?_) (fun c1 => ?_)
        · refine lv_iinc (v := nI (i2 + 1)) (lv' := [(3, .int (nI (i2 + 1))), (2, .int (nI i1)), (1, .int ((L_go3 F M i1 ((L_go2 F M i1).1) ((L_go2 F M i1).2.1) ((L_go2 F M i1).2.2) i2).1)), (0, .ref h)]) hx hb dX11_goes_105 hl (k := 0) rfl (nI_1 i2) (by decide) rfl (fun ls hl => ?_)
          refine lv_goto (tgt := 47) hx hb dX11_goes_108 (by decide) ?_
          have e9 : L_go3 F M i1 ((L_go2 F M i1).1) ((L_go2 F M i1).2.1) ((L_go2 F M i1).2.2) (i2 + 1) = ((L_go3 F M i1 ((L_go2 F M i1).1) ((L_go2 F M i1).2.1) ((L_go2 F M i1).2.2) i2).1, (L_go3 F M i1 ((L_go2 F M i1).1) ((L_go2 F M i1).2.1) ((L_go2 F M i1).2.2) i2).2.1, (L_go3 F M i1 ((L_go2 F M i1).1) ((L_go2 F M i1).2.1) ((L_go2 F M i1).2.2) i2).2.2) := by rw [L_go3]; rw [if_neg c1]
          refine kk2 ls H locs (show lv_has ls 4 [(3, .int (nI (i2 + 1))), (2, .int (nI i1)), (1, .int ((L_go3 F M i1 ((L_go2 F M i1).1) ((L_go2 F M i1).2.1) ((L_go2 F M i1).2.2) (i2 + 1)).1)), (0, .ref h)] from ?_) (show va_P (dC, dI) vwCl (wM h a cI cB cZ F (va_up (va_up M 47 ((L_go3 F M i1 ((L_go2 F M i1).1) ((L_go2 F M i1).2.1) ((L_go2 F M i1).2.2) (i2 + 1)).2.1)) 48 ((L_go3 F M i1 ((L_go2 F M i1).1) ((L_go2 F M i1).2.1) ((L_go2 F M i1).2.2) (i2 + 1)).2.2))) H from ?_) (show va_D A (wM h a cI cB cZ F (va_up (va_up M 47 ((L_go3 F M i1 ((L_go2 F M i1).1) ((L_go2 F M i1).2.1) ((L_go2 F M i1).2.2) (i2 + 1)).2.1)) 48 ((L_go3 F M i1 ((L_go2 F M i1).1) ((L_go2 F M i1).2.1) ((L_go2 F M i1).2.2) (i2 + 1)).2.2))) from ?_) hS
          · rw [e9]; exact lv_sub hl [0, 1, 2, 3] rfl
          · rw [e9]; exact hP
          · rw [e9]; exact hD
        · refine lv_aload_n hx hb dX11_goes_64 rfl (lv_at hl 3 rfl) ?_
          refine va_get (D := (dC, dI)) (ci := 10) (v := .ref (a 46)) (C := RX11) (T := TX11) (N := 49) hx hb hts hin hown hK hP 0 rfl rfl 46 (by decide) (hts (.fieldLink RX11 120 "SocietyBookModel" "room" "[I") (by decide +kernel)) (fun _ h9 => h9) rfl dX11_goes_65 ?_
          refine lv_bipush (v := 31) hx hb dX11_goes_68 (by decide) ?_
          refine lv_aload_n hx hb dX11_goes_70 rfl (lv_at hl 3 rfl) ?_
          refine va_get (D := (dC, dI)) (ci := 10) (v := .ref (a 48)) (C := RX11) (T := TX11) (N := 49) hx hb hts hin hown hK hP 0 rfl rfl 48 (by decide) (hts (.fieldLink RX11 126 "SocietyBookModel" "row" "[I") (by decide +kernel)) (fun _ h9 => h9) rfl dX11_goes_71 ?_
          refine lv_iload_n hx hb dX11_goes_74 rfl (lv_at hl 1 rfl) ?_
          refine va_iald (f := (L_go3 F M i1 ((L_go2 F M i1).1) ((L_go2 F M i1).2.1) ((L_go2 F M i1).2.2) i2).2.2) hx hb hK hP 39 0 rfl rfl (vp_in_nI (show i1 < 31 by omega) (by decide)) dX11_goes_75 ?_
          rw [nI_clamp (show i1 < 2 ^ 31 by omega)]
          refine lv_imul hx hb dX11_goes_76 ?_
          refine lv_iload_n hx hb dX11_goes_77 rfl (lv_at hl 0 rfl) ?_
          refine lv_iadd hx hb dX11_goes_78 ?_
          refine va_iald (f := M 46) hx hb hK hP 37 0 rfl rfl (ib_31 (hB1 i1 hi1 i2 hi2) (by omega)) dX11_goes_79 ?_
          refine lv_if_le (tgt := 105) hx hb dX11_goes_80 (by decide) (fun c2 => ?_) (fun c2 => ?_)
          · refine lv_iinc (v := nI (i2 + 1)) (lv' := [(3, .int (nI (i2 + 1))), (2, .int (nI i1)), (1, .int ((L_go3 F M i1 ((L_go2 F M i1).1) ((L_go2 F M i1).2.1) ((L_go2 F M i1).2.2) i2).1)), (0, .ref h)]) hx hb dX11_goes_105 hl (k := 0) rfl (nI_1 i2) (by decide) rfl (fun ls hl => ?_)
            refine lv_goto (tgt := 47) hx hb dX11_goes_108 (by decide) ?_
            have e9 : L_go3 F M i1 ((L_go2 F M i1).1) ((L_go2 F M i1).2.1) ((L_go2 F M i1).2.2) (i2 + 1) = ((L_go3 F M i1 ((L_go2 F M i1).1) ((L_go2 F M i1).2.1) ((L_go2 F M i1).2.2) i2).1, (L_go3 F M i1 ((L_go2 F M i1).1) ((L_go2 F M i1).2.1) ((L_go2 F M i1).2.2) i2).2.1, (L_go3 F M i1 ((L_go2 F M i1).1) ((L_go2 F M i1).2.1) ((L_go2 F M i1).2.2) i2).2.2) := by rw [L_go3]; rw [if_pos c1, if_pos c2]
            refine kk2 ls H locs (show lv_has ls 4 [(3, .int (nI (i2 + 1))), (2, .int (nI i1)), (1, .int ((L_go3 F M i1 ((L_go2 F M i1).1) ((L_go2 F M i1).2.1) ((L_go2 F M i1).2.2) (i2 + 1)).1)), (0, .ref h)] from ?_) (show va_P (dC, dI) vwCl (wM h a cI cB cZ F (va_up (va_up M 47 ((L_go3 F M i1 ((L_go2 F M i1).1) ((L_go2 F M i1).2.1) ((L_go2 F M i1).2.2) (i2 + 1)).2.1)) 48 ((L_go3 F M i1 ((L_go2 F M i1).1) ((L_go2 F M i1).2.1) ((L_go2 F M i1).2.2) (i2 + 1)).2.2))) H from ?_) (show va_D A (wM h a cI cB cZ F (va_up (va_up M 47 ((L_go3 F M i1 ((L_go2 F M i1).1) ((L_go2 F M i1).2.1) ((L_go2 F M i1).2.2) (i2 + 1)).2.1)) 48 ((L_go3 F M i1 ((L_go2 F M i1).1) ((L_go2 F M i1).2.1) ((L_go2 F M i1).2.2) (i2 + 1)).2.2))) from ?_) hS
            · rw [e9]; exact lv_sub hl [0, 1, 2, 3] rfl
            · rw [e9]; exact hP
            · rw [e9]; exact hD
          · refine lv_aload_n hx hb dX11_goes_83 rfl (lv_at hl 3 rfl) ?_
            refine va_get (D := (dC, dI)) (ci := 10) (v := .ref (a 47)) (C := RX11) (T := TX11) (N := 49) hx hb hts hin hown hK hP 0 rfl rfl 47 (by decide) (hts (.fieldLink RX11 123 "SocietyBookModel" "from" "[I") (by decide +kernel)) (fun _ h9 => h9) rfl dX11_goes_84 ?_
            refine lv_iload_n hx hb dX11_goes_87 rfl (lv_at hl 0 rfl) ?_
            refine lv_aload_n hx hb dX11_goes_88 rfl (lv_at hl 3 rfl) ?_
            refine va_get (D := (dC, dI)) (ci := 10) (v := .ref (a 48)) (C := RX11) (T := TX11) (N := 49) hx hb hts hin hown hK hP 0 rfl rfl 48 (by decide) (hts (.fieldLink RX11 126 "SocietyBookModel" "row" "[I") (by decide +kernel)) (fun _ h9 => h9) rfl dX11_goes_89 ?_
            refine lv_iload_n hx hb dX11_goes_92 rfl (lv_at hl 1 rfl) ?_
            refine va_iald (f := (L_go3 F M i1 ((L_go2 F M i1).1) ((L_go2 F M i1).2.1) ((L_go2 F M i1).2.2) i2).2.2) hx hb hK hP 39 0 rfl rfl (vp_in_nI (show i1 < 31 by omega) (by decide)) dX11_goes_93 ?_
            rw [nI_clamp (show i1 < 2 ^ 31 by omega)]
            refine va_iast (f := (L_go3 F M i1 ((L_go2 F M i1).1) ((L_go2 F M i1).2.1) ((L_go2 F M i1).2.2) i2).2.1) hx hb hK hP hD hS 38 0 rfl rfl (vp_in_nI (show i2 < 31 by omega) (by decide)) dX11_goes_94 (fun H locs hP hD hS => ?_)
            rw [nI_clamp (show i2 < 2 ^ 31 by omega)] at hP hD
            replace hP : va_P (dC, dI) vwCl (wM h a cI cB cZ F (va_up (va_up M 48 ((L_go3 F M i1 ((L_go2 F M i1).1) ((L_go2 F M i1).2.1) ((L_go2 F M i1).2.2) i2).2.2)) 47 (upd ((L_go3 F M i1 ((L_go2 F M i1).1) ((L_go2 F M i1).2.1) ((L_go2 F M i1).2.2) i2).2.1) i2 (((L_go3 F M i1 ((L_go2 F M i1).1) ((L_go2 F M i1).2.1) ((L_go2 F M i1).2.2) i2).2.2) i1)))) H := hP
            replace hD : va_D A (wM h a cI cB cZ F (va_up (va_up M 48 ((L_go3 F M i1 ((L_go2 F M i1).1) ((L_go2 F M i1).2.1) ((L_go2 F M i1).2.2) i2).2.2)) 47 (upd ((L_go3 F M i1 ((L_go2 F M i1).1) ((L_go2 F M i1).2.1) ((L_go2 F M i1).2.2) i2).2.1) i2 (((L_go3 F M i1 ((L_go2 F M i1).1) ((L_go2 F M i1).2.1) ((L_go2 F M i1).2.2) i2).2.2) i1)))) := hD
            refine lv_aload_n hx hb dX11_goes_95 rfl (lv_at hl 3 rfl) ?_
            refine va_get (D := (dC, dI)) (ci := 10) (v := .ref (a 48)) (C := RX11) (T := TX11) (N := 49) hx hb hts hin hown hK hP 0 rfl rfl 48 (by decide) (hts (.fieldLink RX11 126 "SocietyBookModel" "row" "[I") (by decide +kernel)) (fun _ h9 => h9) rfl dX11_goes_96 ?_
            refine lv_iload_n hx hb dX11_goes_99 rfl (lv_at hl 2 rfl) ?_
            refine lv_iload_n hx hb dX11_goes_100 rfl (lv_at hl 0 rfl) ?_
            refine va_iast (f := (L_go3 F M i1 ((L_go2 F M i1).1) ((L_go2 F M i1).2.1) ((L_go2 F M i1).2.2) i2).2.2) hx hb hK hP hD hS 39 0 rfl rfl (hB2 i1 hi1 i2 hi2 c1) dX11_goes_101 (fun H locs hP hD hS => ?_)
            replace hP : va_P (dC, dI) vwCl (wM h a cI cB cZ F (va_up (va_up M 47 (upd ((L_go3 F M i1 ((L_go2 F M i1).1) ((L_go2 F M i1).2.1) ((L_go2 F M i1).2.2) i2).2.1) i2 (((L_go3 F M i1 ((L_go2 F M i1).1) ((L_go2 F M i1).2.1) ((L_go2 F M i1).2.2) i2).2.2) i1))) 48 (upd ((L_go3 F M i1 ((L_go2 F M i1).1) ((L_go2 F M i1).2.1) ((L_go2 F M i1).2.2) i2).2.2) (((L_go3 F M i1 ((L_go2 F M i1).1) ((L_go2 F M i1).2.1) ((L_go2 F M i1).2.2) i2).1).toNatClampNeg) (nI i2)))) H := hP
            replace hD : va_D A (wM h a cI cB cZ F (va_up (va_up M 47 (upd ((L_go3 F M i1 ((L_go2 F M i1).1) ((L_go2 F M i1).2.1) ((L_go2 F M i1).2.2) i2).2.1) i2 (((L_go3 F M i1 ((L_go2 F M i1).1) ((L_go2 F M i1).2.1) ((L_go2 F M i1).2.2) i2).2.2) i1))) 48 (upd ((L_go3 F M i1 ((L_go2 F M i1).1) ((L_go2 F M i1).2.1) ((L_go2 F M i1).2.2) i2).2.2) (((L_go3 F M i1 ((L_go2 F M i1).1) ((L_go2 F M i1).2.1) ((L_go2 F M i1).2.2) i2).1).toNatClampNeg) (nI i2)))) := hD
            refine lv_iinc (v := ((L_go3 F M i1 ((L_go2 F M i1).1) ((L_go2 F M i1).2.1) ((L_go2 F M i1).2.2) i2).1) + 1) (lv' := [(1, .int (((L_go3 F M i1 ((L_go2 F M i1).1) ((L_go2 F M i1).2.1) ((L_go2 F M i1).2.2) i2).1) + 1)), (3, .int (nI i2)), (2, .int (nI i1)), (0, .ref h)]) hx hb dX11_goes_102 hl (k := 2) rfl (by rfl) (by decide) rfl (fun ls hl => ?_)
            refine lv_iinc (v := nI (i2 + 1)) (lv' := [(3, .int (nI (i2 + 1))), (1, .int (((L_go3 F M i1 ((L_go2 F M i1).1) ((L_go2 F M i1).2.1) ((L_go2 F M i1).2.2) i2).1) + 1)), (2, .int (nI i1)), (0, .ref h)]) hx hb dX11_goes_105 hl (k := 1) rfl (nI_1 i2) (by decide) rfl (fun ls hl => ?_)
            refine lv_goto (tgt := 47) hx hb dX11_goes_108 (by decide) ?_
            have e9 : L_go3 F M i1 ((L_go2 F M i1).1) ((L_go2 F M i1).2.1) ((L_go2 F M i1).2.2) (i2 + 1) = (((L_go3 F M i1 ((L_go2 F M i1).1) ((L_go2 F M i1).2.1) ((L_go2 F M i1).2.2) i2).1) + 1, upd ((L_go3 F M i1 ((L_go2 F M i1).1) ((L_go2 F M i1).2.1) ((L_go2 F M i1).2.2) i2).2.1) i2 (((L_go3 F M i1 ((L_go2 F M i1).1) ((L_go2 F M i1).2.1) ((L_go2 F M i1).2.2) i2).2.2) i1), upd ((L_go3 F M i1 ((L_go2 F M i1).1) ((L_go2 F M i1).2.1) ((L_go2 F M i1).2.2) i2).2.2) (((L_go3 F M i1 ((L_go2 F M i1).1) ((L_go2 F M i1).2.1) ((L_go2 F M i1).2.2) i2).1).toNatClampNeg) (nI i2)) := by rw [L_go3]; rw [if_pos c1, if_neg c2]
            refine kk2 ls H locs (show lv_has ls 4 [(3, .int (nI (i2 + 1))), (2, .int (nI i1)), (1, .int ((L_go3 F M i1 ((L_go2 F M i1).1) ((L_go2 F M i1).2.1) ((L_go2 F M i1).2.2) (i2 + 1)).1)), (0, .ref h)] from ?_) (show va_P (dC, dI) vwCl (wM h a cI cB cZ F (va_up (va_up M 47 ((L_go3 F M i1 ((L_go2 F M i1).1) ((L_go2 F M i1).2.1) ((L_go2 F M i1).2.2) (i2 + 1)).2.1)) 48 ((L_go3 F M i1 ((L_go2 F M i1).1) ((L_go2 F M i1).2.1) ((L_go2 F M i1).2.2) (i2 + 1)).2.2))) H from ?_) (show va_D A (wM h a cI cB cZ F (va_up (va_up M 47 ((L_go3 F M i1 ((L_go2 F M i1).1) ((L_go2 F M i1).2.1) ((L_go2 F M i1).2.2) (i2 + 1)).2.1)) 48 ((L_go3 F M i1 ((L_go2 F M i1).1) ((L_go2 F M i1).2.1) ((L_go2 F M i1).2.2) (i2 + 1)).2.2))) from ?_) hS
            · rw [e9]; exact lv_sub hl [0, 2, 1, 3] rfl
            · rw [e9]; exact hP
            · rw [e9]; exact hD
      · replace hl : lv_has ls 4 [(3, .int (nI n31)), (2, .int (nI i1)), (1, .int ((L_go3 F M i1 ((L_go2 F M i1).1) ((L_go2 F M i1).2.1) ((L_go2 F M i1).2.2) n31).1)), (0, .ref h)] := hl
        replace hP : va_P (dC, dI) vwCl (wM h a cI cB cZ F (va_up (va_up M 47 ((L_go3 F M i1 ((L_go2 F M i1).1) ((L_go2 F M i1).2.1) ((L_go2 F M i1).2.2) n31).2.1)) 48 ((L_go3 F M i1 ((L_go2 F M i1).1) ((L_go2 F M i1).2.1) ((L_go2 F M i1).2.2) n31).2.2))) H := hP
        replace hD : va_D A (wM h a cI cB cZ F (va_up (va_up M 47 ((L_go3 F M i1 ((L_go2 F M i1).1) ((L_go2 F M i1).2.1) ((L_go2 F M i1).2.2) n31).2.1)) 48 ((L_go3 F M i1 ((L_go2 F M i1).1) ((L_go2 F M i1).2.1) ((L_go2 F M i1).2.2) n31).2.2))) := hD
        refine lv_iload_n hx hb dX11_goes_47 rfl (lv_at hl 0 rfl) ?_
        refine lv_bipush (v := 31) hx hb dX11_goes_48 (by decide) ?_
        refine lv_icmp_ge (tgt := 111) hx hb dX11_goes_50 (by decide) (fun _ => ?_) (fun c => absurd lb_y31 c)
        refine lv_iinc (v := nI (i1 + 1)) (lv' := [(2, .int (nI (i1 + 1))), (3, .int (nI n31)), (1, .int ((L_go3 F M i1 ((L_go2 F M i1).1) ((L_go2 F M i1).2.1) ((L_go2 F M i1).2.2) n31).1)), (0, .ref h)]) hx hb dX11_goes_111 hl (k := 1) rfl (nI_1 i1) (by decide) rfl (fun ls hl => ?_)
        refine lv_goto (tgt := 40) hx hb dX11_goes_114 (by decide) ?_
        have e9 : L_go2 F M (i1 + 1) = ((L_go3 F M i1 ((L_go2 F M i1).1) ((L_go2 F M i1).2.1) ((L_go2 F M i1).2.2) n31).1, (L_go3 F M i1 ((L_go2 F M i1).1) ((L_go2 F M i1).2.1) ((L_go2 F M i1).2.2) n31).2.1, (L_go3 F M i1 ((L_go2 F M i1).1) ((L_go2 F M i1).2.1) ((L_go2 F M i1).2.2) n31).2.2) := by rw [L_go2]
        refine kk1 ls H locs (show lv_has ls 4 [(2, .int (nI (i1 + 1))), (1, .int ((L_go2 F M (i1 + 1)).1)), (0, .ref h)] from ?_) (show va_P (dC, dI) vwCl (wM h a cI cB cZ F (va_up (va_up M 47 ((L_go2 F M (i1 + 1)).2.1)) 48 ((L_go2 F M (i1 + 1)).2.2))) H from ?_) (show va_D A (wM h a cI cB cZ F (va_up (va_up M 47 ((L_go2 F M (i1 + 1)).2.1)) 48 ((L_go2 F M (i1 + 1)).2.2))) from ?_) hS
        · rw [e9]; exact lv_sub hl [0, 2, 3] rfl
        · rw [e9]; exact hP
        · rw [e9]; exact hD
    · replace hl : lv_has ls 4 [(2, .int (nI N1)), (1, .int ((L_go2 F M N1).1)), (0, .ref h)] := hl
      replace hP : va_P (dC, dI) vwCl (wM h a cI cB cZ F (va_up (va_up M 47 ((L_go2 F M N1).2.1)) 48 ((L_go2 F M N1).2.2))) H := hP
      replace hD : va_D A (wM h a cI cB cZ F (va_up (va_up M 47 ((L_go2 F M N1).2.1)) 48 ((L_go2 F M N1).2.2))) := hD
      refine lv_iload_n hx hb dX11_goes_40 rfl (lv_at hl 0 rfl) ?_
      refine lv_iload_n hx hb dX11_goes_41 rfl (lv_at hl 1 rfl) ?_
      refine lv_icmp_ge (tgt := 117) hx hb dX11_goes_42 (by decide) (fun _ => ?_) (fun c => absurd hN2 c)
      refine lv_aload_n hx hb dX11_goes_117 rfl (lv_at hl 2 rfl) ?_
      refine va_get (D := (dC, dI)) (ci := 10) (v := .ref (a 47)) (C := RX11) (T := TX11) (N := 49) hx hb hts hin hown hK hP 0 rfl rfl 47 (by decide) (hts (.fieldLink RX11 123 "SocietyBookModel" "from" "[I") (by decide +kernel)) (fun _ h9 => h9) rfl dX11_goes_118 ?_
      refine lv_bipush (v := 30) hx hb dX11_goes_121 (by decide) ?_
      refine va_iald (f := (L_go2 F M N1).2.1) hx hb hK hP 38 0 rfl rfl (ib_lit (by decide)) dX11_goes_123 ?_
      rw [show (30 : Int32).toNatClampNeg = 30 from by decide]
      refine lv_bipush (v := (-9)) hx hb dX11_goes_124 (by decide) ?_
      refine lv_icmp_ne (tgt := 131) hx hb dX11_goes_126 (by decide) (fun c3 => ?_) (fun c3 => ?_)
      · refine lv_bipush (v := 30) hx hb dX11_goes_131 (by decide) ?_
        refine lv_istore_n (lv' := [(2, .int 30), (1, .int ((L_go2 F M N1).1)), (0, .ref h)]) hx hb dX11_goes_133 rfl hl (by decide) rfl (fun ls hl => ?_)
        refine lp_forH (N := N2) (lv := fun i1 => [(2, .int ((L_go4 F M N1 i1).1)), (1, .int ((L_go2 F M N1).1)), (0, .ref h)]) (wd := fun i1 => wM h a cI cB cZ F (va_up (va_up (va_up M 47 ((L_go2 F M N1).2.1)) 48 ((L_go2 F M N1).2.2)) 46 ((L_go4 F M N1 i1).2))) hP hD hS (lv_sub hl [0, 1, 2] rfl) (fun i1 hi1 ls H locs hl hP hD hS kk1 => ?_) (fun ls H locs hl hP hD hS => ?_)
        · replace hl : lv_has ls 4 [(2, .int ((L_go4 F M N1 i1).1)), (1, .int ((L_go2 F M N1).1)), (0, .ref h)] := hl
          replace hP : va_P (dC, dI) vwCl (wM h a cI cB cZ F (va_up (va_up (va_up M 47 ((L_go2 F M N1).2.1)) 48 ((L_go2 F M N1).2.2)) 46 ((L_go4 F M N1 i1).2))) H := hP
          replace hD : va_D A (wM h a cI cB cZ F (va_up (va_up (va_up M 47 ((L_go2 F M N1).2.1)) 48 ((L_go2 F M N1).2.2)) 46 ((L_go4 F M N1 i1).2))) := hD
          refine lv_iload_n hx hb dX11_goes_134 rfl (lv_at hl 0 rfl) ?_
          refine lv_if_eq (tgt := 188) hx hb dX11_goes_135 (by decide) (fun c => absurd c ((hq c3).1 _ hi1)) (fun _ => ?_)
          refine lv_aload_n hx hb dX11_goes_138 rfl (lv_at hl 2 rfl) ?_
          refine va_get (D := (dC, dI)) (ci := 10) (v := .ref (a 46)) (C := RX11) (T := TX11) (N := 49) hx hb hts hin hown hK hP 0 rfl rfl 46 (by decide) (hts (.fieldLink RX11 120 "SocietyBookModel" "room" "[I") (by decide +kernel)) (fun _ h9 => h9) rfl dX11_goes_139 ?_
          refine lv_bipush (v := 31) hx hb dX11_goes_142 (by decide) ?_
          refine lv_aload_n hx hb dX11_goes_144 rfl (lv_at hl 2 rfl) ?_
          refine va_get (D := (dC, dI)) (ci := 10) (v := .ref (a 47)) (C := RX11) (T := TX11) (N := 49) hx hb hts hin hown hK hP 0 rfl rfl 47 (by decide) (hts (.fieldLink RX11 123 "SocietyBookModel" "from" "[I") (by decide +kernel)) (fun _ h9 => h9) rfl dX11_goes_145 ?_
          refine lv_iload_n hx hb dX11_goes_148 rfl (lv_at hl 0 rfl) ?_
          refine va_iald (f := (L_go2 F M N1).2.1) hx hb hK hP 38 0 rfl rfl ((hq c3).2.2 i1 hi1).1 dX11_goes_149 ?_
          refine lv_imul hx hb dX11_goes_150 ?_
          refine lv_iload_n hx hb dX11_goes_151 rfl (lv_at hl 0 rfl) ?_
          refine lv_iadd hx hb dX11_goes_152 ?_
          refine lv_dup2_11 hx hb dX11_goes_153 rfl rfl ?_
          refine va_iald (f := (L_go4 F M N1 i1).2) hx hb hK hP 37 0 rfl rfl (ib_31b ((hq c3).2.2 i1 hi1).2 ((hq c3).2.2 i1 hi1).1) dX11_goes_154 ?_
          refine lv_iconst (v := 1) hx hb dX11_goes_155 (by decide) ?_
          refine lv_isub hx hb dX11_goes_156 ?_
          refine va_iast (f := (L_go4 F M N1 i1).2) hx hb hK hP hD hS 37 0 rfl rfl (ib_31b ((hq c3).2.2 i1 hi1).2 ((hq c3).2.2 i1 hi1).1) dX11_goes_157 (fun H locs hP hD hS => ?_)
          rw [wM_s46] at hP hD
          refine lv_aload_n hx hb dX11_goes_158 rfl (lv_at hl 2 rfl) ?_
          refine va_get (D := (dC, dI)) (ci := 10) (v := .ref (a 46)) (C := RX11) (T := TX11) (N := 49) hx hb hts hin hown hK hP 0 rfl rfl 46 (by decide) (hts (.fieldLink RX11 120 "SocietyBookModel" "room" "[I") (by decide +kernel)) (fun _ h9 => h9) rfl dX11_goes_159 ?_
          refine lv_bipush (v := 31) hx hb dX11_goes_162 (by decide) ?_
          refine lv_iload_n hx hb dX11_goes_164 rfl (lv_at hl 0 rfl) ?_
          refine lv_imul hx hb dX11_goes_165 ?_
          refine lv_aload_n hx hb dX11_goes_166 rfl (lv_at hl 2 rfl) ?_
          refine va_get (D := (dC, dI)) (ci := 10) (v := .ref (a 47)) (C := RX11) (T := TX11) (N := 49) hx hb hts hin hown hK hP 0 rfl rfl 47 (by decide) (hts (.fieldLink RX11 123 "SocietyBookModel" "from" "[I") (by decide +kernel)) (fun _ h9 => h9) rfl dX11_goes_167 ?_
          refine lv_iload_n hx hb dX11_goes_170 rfl (lv_at hl 0 rfl) ?_
          refine va_iald (f := (L_go2 F M N1).2.1) hx hb hK hP 38 0 rfl rfl ((hq c3).2.2 i1 hi1).1 dX11_goes_171 ?_
          refine lv_iadd hx hb dX11_goes_172 ?_
          refine lv_dup2_11 hx hb dX11_goes_173 rfl rfl ?_
          refine va_iald (f := upd ((L_go4 F M N1 i1).2) (((31 * (((L_go2 F M N1).2.1) (((L_go4 F M N1 i1).1).toNatClampNeg))) + ((L_go4 F M N1 i1).1)).toNatClampNeg) ((((L_go4 F M N1 i1).2) (((31 * (((L_go2 F M N1).2.1) (((L_go4 F M N1 i1).1).toNatClampNeg))) + ((L_go4 F M N1 i1).1)).toNatClampNeg)) - 1)) hx hb hK hP 37 0 rfl rfl (ib_31b ((hq c3).2.2 i1 hi1).1 ((hq c3).2.2 i1 hi1).2) dX11_goes_174 ?_
          refine lv_iconst (v := 1) hx hb dX11_goes_175 (by decide) ?_
          refine lv_iadd hx hb dX11_goes_176 ?_
          refine va_iast (f := upd ((L_go4 F M N1 i1).2) (((31 * (((L_go2 F M N1).2.1) (((L_go4 F M N1 i1).1).toNatClampNeg))) + ((L_go4 F M N1 i1).1)).toNatClampNeg) ((((L_go4 F M N1 i1).2) (((31 * (((L_go2 F M N1).2.1) (((L_go4 F M N1 i1).1).toNatClampNeg))) + ((L_go4 F M N1 i1).1)).toNatClampNeg)) - 1)) hx hb hK hP hD hS 37 0 rfl rfl (ib_31b ((hq c3).2.2 i1 hi1).1 ((hq c3).2.2 i1 hi1).2) dX11_goes_177 (fun H locs hP hD hS => ?_)
          rw [wM_s46] at hP hD
          refine lv_aload_n hx hb dX11_goes_178 rfl (lv_at hl 2 rfl) ?_
          refine va_get (D := (dC, dI)) (ci := 10) (v := .ref (a 47)) (C := RX11) (T := TX11) (N := 49) hx hb hts hin hown hK hP 0 rfl rfl 47 (by decide) (hts (.fieldLink RX11 123 "SocietyBookModel" "from" "[I") (by decide +kernel)) (fun _ h9 => h9) rfl dX11_goes_179 ?_
          refine lv_iload_n hx hb dX11_goes_182 rfl (lv_at hl 0 rfl) ?_
          refine va_iald (f := (L_go2 F M N1).2.1) hx hb hK hP 38 0 rfl rfl ((hq c3).2.2 i1 hi1).1 dX11_goes_183 ?_
          refine lv_istore_n (lv' := [(2, .int (((L_go2 F M N1).2.1) (((L_go4 F M N1 i1).1).toNatClampNeg))), (1, .int ((L_go2 F M N1).1)), (0, .ref h)]) hx hb dX11_goes_184 rfl hl (by decide) rfl (fun ls hl => ?_)
          refine lv_goto (tgt := 134) hx hb dX11_goes_185 (by decide) ?_
          have e9 : L_go4 F M N1 (i1 + 1) = (((L_go2 F M N1).2.1) (((L_go4 F M N1 i1).1).toNatClampNeg), upd (upd ((L_go4 F M N1 i1).2) (((31 * (((L_go2 F M N1).2.1) (((L_go4 F M N1 i1).1).toNatClampNeg))) + ((L_go4 F M N1 i1).1)).toNatClampNeg) ((((L_go4 F M N1 i1).2) (((31 * (((L_go2 F M N1).2.1) (((L_go4 F M N1 i1).1).toNatClampNeg))) + ((L_go4 F M N1 i1).1)).toNatClampNeg)) - 1)) (((31 * ((L_go4 F M N1 i1).1)) + (((L_go2 F M N1).2.1) (((L_go4 F M N1 i1).1).toNatClampNeg))).toNatClampNeg) (((upd ((L_go4 F M N1 i1).2) (((31 * (((L_go2 F M N1).2.1) (((L_go4 F M N1 i1).1).toNatClampNeg))) + ((L_go4 F M N1 i1).1)).toNatClampNeg) ((((L_go4 F M N1 i1).2) (((31 * (((L_go2 F M N1).2.1) (((L_go4 F M N1 i1).1).toNatClampNeg))) + ((L_go4 F M N1 i1).1)).toNatClampNeg)) - 1)) (((31 * ((L_go4 F M N1 i1).1)) + (((L_go2 F M N1).2.1) (((L_go4 F M N1 i1).1).toNatClampNeg))).toNatClampNeg)) + 1)) := by rw [L_go4]
          refine kk1 ls H locs (show lv_has ls 4 [(2, .int ((L_go4 F M N1 (i1 + 1)).1)), (1, .int ((L_go2 F M N1).1)), (0, .ref h)] from ?_) (show va_P (dC, dI) vwCl (wM h a cI cB cZ F (va_up (va_up (va_up M 47 ((L_go2 F M N1).2.1)) 48 ((L_go2 F M N1).2.2)) 46 ((L_go4 F M N1 (i1 + 1)).2))) H from ?_) (show va_D A (wM h a cI cB cZ F (va_up (va_up (va_up M 47 ((L_go2 F M N1).2.1)) 48 ((L_go2 F M N1).2.2)) 46 ((L_go4 F M N1 (i1 + 1)).2))) from ?_) hS
          · rw [e9]; exact lv_sub hl [0, 1, 2] rfl
          · rw [e9]; exact hP
          · rw [e9]; exact hD
        · replace hl : lv_has ls 4 [(2, .int ((L_go4 F M N1 N2).1)), (1, .int ((L_go2 F M N1).1)), (0, .ref h)] := hl
          replace hP : va_P (dC, dI) vwCl (wM h a cI cB cZ F (va_up (va_up (va_up M 47 ((L_go2 F M N1).2.1)) 48 ((L_go2 F M N1).2.2)) 46 ((L_go4 F M N1 N2).2))) H := hP
          replace hD : va_D A (wM h a cI cB cZ F (va_up (va_up (va_up M 47 ((L_go2 F M N1).2.1)) 48 ((L_go2 F M N1).2.2)) 46 ((L_go4 F M N1 N2).2))) := hD
          refine lv_iload_n hx hb dX11_goes_134 rfl (lv_at hl 0 rfl) ?_
          refine lv_if_eq (tgt := 188) hx hb dX11_goes_135 (by decide) (fun _ => ?_) (fun c => absurd (hq c3).2.1 c)
          refine lv_iconst (v := 1) hx hb dX11_goes_188 (by decide) ?_
          exact W.zret (v := 1) hx hb hr (rfl) (fun t ht hW => ⟨⟨1, (F, va_up (va_up (va_up M 47 ((L_go2 F M N1).2.1)) 48 ((L_go2 F M N1).2.2)) 46 ((L_go4 F M N1 N2).2)), rfl, by unfold s_X11_goes; rw [if_neg c3], ⟨by rw [ht]; exact hP, va_K.moved hW.alike hK⟩, hD⟩, hS.F ht⟩) hS.2.2 dX11_goes_189
      · refine lv_iconst (v := 0) hx hb dX11_goes_129 (by decide) ?_
        exact W.zret (v := 0) hx hb hr (rfl) (fun t ht hW => ⟨⟨0, (F, va_up (va_up M 47 ((L_go2 F M N1).2.1)) 48 ((L_go2 F M N1).2.2)), rfl, by unfold s_X11_goes; rw [if_pos c3], ⟨by rw [ht]; exact hP, va_K.moved hW.alike hK⟩, hD⟩, hS.F ht⟩) hS.2.2 dX11_goes_130
