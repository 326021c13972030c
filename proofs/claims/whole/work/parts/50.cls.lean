theorem al_n4 {F : Nat → Int32} : ¬ vd F (4, (F 16).toNatClampNeg) := by
  intro h
  simp [vd] at h
theorem al_v4 {F : Nat → Int32} {rl : List (Nat × Nat)} (hrl : ∀ r, r ∈ rl ↔ vd F r) (hn : vp_in (F 16) 100) : ∀ r, r ∈ rl ++ [(4, (F 16).toNatClampNeg)] ↔ vd (va_up F 16 (F 16 + 1)) r := by
  have hcl := cl_s hn (by decide)
  rintro ⟨c, i⟩
  rw [List.mem_append, hrl, List.mem_singleton]
  by_cases h : c = 4
  · subst h
    simp [vd, va_up, hcl]
    omega
  · simp [vd, va_up, h]

theorem lt_up (A B : Nat → Int32) (x y p w : Int32) (N : Nat) : ∀ n, n ≤ N → lt_N (upd A N x) (upd B N y) p w n = lt_N A B p w n := by
  intro n
  induction n with
  | zero => intro _; rfl
  | succ n ih =>
    intro h
    have e1 : upd A N x n = A n := by unfold upd; rw [if_neg (by omega)]
    have e2 : upd B N y n = B n := by unfold upd; rw [if_neg (by omega)]
    rw [lt_N, lt_N, ih (by omega), e1, e2]
theorem lt_new (A B : Nat → Int32) (x y p w : Int32) (n : Nat) : lt_N (upd A n x) (upd B n y) p w (n + 1) = if x = p ∧ y = w then some n else lt_N A B p w n := by
  have e1 : upd A n x n = x := by unfold upd; rw [if_pos rfl]
  have e2 : upd B n y n = y := by unfold upd; rw [if_pos rfl]
  rw [lt_N, lt_up _ _ _ _ _ _ _ n (Nat.le_refl n), e1, e2]
theorem al_e4 (ad : Nat × Nat → Nat) (cy : Nat → ClassId) (F : Nat → Int32) (M Y : Nat → Nat → Int32) (p0 p1 p2 : Int32) (h0 : 0 ≤ p0) (h1 : 0 ≤ p1) (h3 : p1.toNatClampNeg < 3) (hn : vp_in (F 16) 100) (o : Option Nat) (ho : lt_N (M 17) (M 18) (nI p0.toNatClampNeg) (nI p1.toNatClampNeg) (F 16).toNatClampNeg = o) (r : Nat × Nat) (hr : vd (va_up F 16 (F 16 + 1)) r) :
    ru_ (ru_ (ru_ (eC ad cy F M Y) (4, (F 16).toNatClampNeg) (.inr (4, [.int p2, .int (F 3), va_rf (o.map (fun j => ad (4, j)))]))) (15, p0.toNatClampNeg) (.inl (cy 7, 3, rf_ (va_up (fun w => if w < 3 then (lt_N (M 17) (M 18) (nI p0.toNatClampNeg) (nI w) (F 16).toNatClampNeg).map (fun j => ad (4, j)) else none) p1.toNatClampNeg (some (ad (4, (F 16).toNatClampNeg))))))) (9, 0) (.inr (9, [.int (F 3), .int (F 4), .ref (ad (10, 0)), .ref (ad (11, 0)), .int (F 7), .int (F 16 + 1), .ref (ad (12, 0)), .int (F 21), .ref (ad (13, 0)), .int (F 25), .ref (ad (14, 0)), .int (F 32), .ref (ad (16, 0)), .int (F 38), .ref (ad (2, 0)), .ref (ad (17, 0)), .int (F 2), .int (F 0), .ref (ad (18, 0))])) r
    = eC ad cy (va_up F 16 ((F 16) + 1)) (va_up (va_up (va_up (va_up M 17 (upd (M 17) ((F 16).toNatClampNeg) p0)) 18 (upd (M 18) ((F 16).toNatClampNeg) p1)) 19 (upd (M 19) ((F 16).toNatClampNeg) p2)) 20 (upd (M 20) ((F 16).toNatClampNeg) (F 3))) Y r := by
  have hcl := cl_s hn (by decide)
  have b0 := nI_bk h0
  have b1 := nI_bk h1
  obtain ⟨c, i⟩ := r
  by_cases q9 : (c, i) = (9, 0)
  · rw [q9, ru_s]; rfl
  · rw [ru_n q9]
    by_cases qa : (c, i) = (15, p0.toNatClampNeg)
    · rw [qa, ru_s, en_15]
      refine congrArg (fun z => Sum.inl (cy 7, 3, rf_ z)) (funext fun x => ?_)
      show va_up _ p1.toNatClampNeg _ x = if x < 3 then (lt_N (upd (M 17) (F 16).toNatClampNeg p0) (upd (M 18) (F 16).toNatClampNeg p1) (nI p0.toNatClampNeg) (nI x) (F 16 + 1).toNatClampNeg).map (fun j => ad (4, j)) else none
      rw [hcl, lt_new, b0]
      unfold va_up
      by_cases e : x = p1.toNatClampNeg
      · rw [if_pos e, if_pos (by omega), if_pos ⟨rfl, by rw [e, b1]⟩]; rfl
      · rw [if_neg e]
        show (if x < 3 then (lt_N (M 17) (M 18) p0 (nI x) (F 16).toNatClampNeg).map (fun j => ad (4, j)) else none) = _
        by_cases e2 : x < 3
        · rw [if_pos e2, if_pos e2, if_neg (fun z => e ((nI_ij h1 (by omega)).mp z.2))]
        · rw [if_neg e2, if_neg e2]
    · rw [ru_n qa]
      by_cases qo : (c, i) = (4, (F 16).toNatClampNeg)
      · rw [qo, ru_s, en_4]
        show _ = Sum.inr (4, [Value.int (upd (M 19) (F 16).toNatClampNeg p2 (F 16).toNatClampNeg), Value.int (upd (M 20) (F 16).toNatClampNeg (F 3) (F 16).toNatClampNeg), va_rf ((lt_N (upd (M 17) (F 16).toNatClampNeg p0) (upd (M 18) (F 16).toNatClampNeg p1) (upd (M 17) (F 16).toNatClampNeg p0 (F 16).toNatClampNeg) (upd (M 18) (F 16).toNatClampNeg p1 (F 16).toNatClampNeg) (F 16).toNatClampNeg).map (fun j => ad (4, j)))])
        rw [lt_up _ _ _ _ _ _ _ _ (Nat.le_refl _)]
        have eu : ∀ (f : Nat → Int32) (n : Nat) (v : Int32), upd f n v n = v := fun f n v => by unfold upd; rw [if_pos rfl]
        rw [eu, eu, eu, eu]
        rw [b0, b1] at ho
        rw [ho]
      · rw [ru_n qo]
        by_cases co : c = 4
        · subst co
          have hne : ¬ i = (F 16).toNatClampNeg := fun q => qo (by rw [q])
          have hi : i < (F 16).toNatClampNeg := by
            simp [vd, va_up, hcl] at hr
            omega
          rw [en_4, en_4]
          show _ = Sum.inr (4, [Value.int (upd (M 19) (F 16).toNatClampNeg p2 i), Value.int (upd (M 20) (F 16).toNatClampNeg (F 3) i), va_rf ((lt_N (upd (M 17) (F 16).toNatClampNeg p0) (upd (M 18) (F 16).toNatClampNeg p1) (upd (M 17) (F 16).toNatClampNeg p0 i) (upd (M 18) (F 16).toNatClampNeg p1 i) i).map (fun j => ad (4, j)))])
          rw [lt_up _ _ _ _ _ _ _ _ (Nat.le_of_lt hi)]
          have eu : ∀ (f : Nat → Int32) (v : Int32), upd f (F 16).toNatClampNeg v i = f i := fun f v => by unfold upd; rw [if_neg hne]
          rw [eu, eu, eu, eu]
        · by_cases c15 : c = 15
          · subst c15
            have hi : i < (F 7).toNatClampNeg := by
              simp [vd, va_up] at hr
              exact hr
            have h31 := ib_c31 (F 7)
            rw [en_15, en_15]
            refine congrArg (fun z => Sum.inl (cy 7, 3, rf_ z)) (funext fun x => ?_)
            show _ = if x < 3 then (lt_N (upd (M 17) (F 16).toNatClampNeg p0) (upd (M 18) (F 16).toNatClampNeg p1) (nI i) (nI x) (F 16 + 1).toNatClampNeg).map (fun j => ad (4, j)) else none
            rw [hcl, lt_new]
            rw [if_neg (c := p0 = nI i ∧ p1 = nI x) (fun z => qa (by rw [(nI_ij h0 (by omega)).mp z.1]))]
          · have c9 : ¬ c = 9 := by
              intro q; subst q
              have hi : i < 1 := by simp [vd] at hr; omega
              exact q9 (by rw [show i = 0 by omega])
            simp [eC, va_up, co, c15, c9]

set_option maxHeartbeats 4000000 in
set_option maxRecDepth 100000 in
theorem c_X10_note (l : Launch) (dC : Nat → ClassId) (dI : Nat → Nat → Nat) (rl : List (Nat × Nat)) (ad : Nat × Nat → Nat) (cy : Nat → ClassId) (F : Nat → Int32) (M Y : Nat → Nat → Int32) (p0 : Int32) (p1 : Int32) (p2 : Int32) (hrl : ∀ r, r ∈ rl ↔ vd F r) (hI : iv F M) (hJ : jv F M) (A : Nat → Prop) (hD : va_D A (rx_W rl ad (eC ad cy F M Y))) : Met l yX10_note wsX10_note ({ frames := 2, cells := 1, slots := 3, locals := 45 } : Room) (va_Pc [.ref (ad (9, 0)), .int p0, .int p1, .int p2] (pA A dC dI rl ad cy (eC ad cy F M Y))) (va_Qi (fun r (_ : (Nat × Nat → Nat) × List (Nat × Nat) × (Nat → Nat → Int32)) => r = (s_X11_note F M p0 p1 p2).1) (qA A dC dI (ad (9, 0)) cy (s_X11_note F M p0 p1 p2).2.1 (s_X11_note F M p0 p1 p2).2.2) A) 1 3 A := by
  refine Met.ofW (cc := cX10_note) (maxL := 5) (ret := (some .int)) (by decide) rfl ?_
  intro p e s m args below meth c s₁ B hml hv
  obtain ⟨rfl, hA, hP, hK, hN⟩ := hv
  have hx := B.exec
  have hb := B.bytes
  have hr := B.returns
  have hts := atoms_spec (ws := wsX10_note) B.pre
  have hown : s.vm.findClass RX10 = some m.cls := findClass_of_methodNamed B.named
  have hlocks := B.notSynchronized
  have hin10 : ∀ w ∈ wsX100, w ∈ wsX10_note := by decide +kernel
  have hin4 : ∀ w ∈ wsX40, w ∈ wsX10_note := by decide +kernel
  have hin5 : ∀ w ∈ wsX50, w ∈ wsX10_note := by decide +kernel
  have hS : va_S A s.heap s.heap [] := va_S.rf
  have hl := lv_entry ([.ref (ad (9, 0)), .int p0, .int p1, .int p2]) (n := 5) (Nat.le_of_ble_eq_true rfl)
  rw [lg_entry_eq]
  generalize (lg_sl ([.ref (ad (9, 0)), .int p0, .int p1, .int p2]) ++ List.replicate (5 - (lg_sl ([.ref (ad (9, 0)), .int p0, .int p1, .int p2])).length) Slot.unset).toArray = ls at hl ⊢
  have hl : lv_has ls 5 [(0, .ref (ad (9, 0))), (1, .int p0), (2, .int p1), (3, .int p2)] := hl
  refine lv_aload_n hx hb dX10_note_0 rfl (lv_at hl 0 rfl) ?_
  refine lv_iload_n hx hb dX10_note_1 rfl (lv_at hl 1 rfl) ?_
  refine va_csq (W.runV (As := [.int p0]) (rest := []) ⟨hx, hb, hml, hown, hts⟩ (c_X10_paperAt l dC dI rl ad cy F M Y  p0 hrl hI hJ ) (cwV 1 hts gX10_note_X10_paperAt rfl rfl rfl (by decide +kernel) ⟨Nat.le_of_ble_eq_true rfl, Nat.le_of_ble_eq_true rfl⟩) ⟨pc_blind, rg_recv hK hP ((hrl _).mpr (vd_9 (by decide))) (ci := 9) rfl en_9, fun U hU hW => ⟨rfl, by rw [hU]; exact hP, va_K.moved hW.alike hK, nst_w hW hN⟩⟩ rfl rfl hl.1 rfl (lv_room (Nat.le_of_ble_eq_true rfl)) dX10_note_2 ⟨Nat.zero_le _, Nat.zero_le _⟩) (fun r hr9 => ?_)
  subst hr9
  by_cases c1 : 0 ≤ p0 ∧ p0 ≤ ((F 7) - 1)
  · rw [if_pos c1]
    refine W.eq (g2 := F0 m 5 ls (.ref (ad (5, p0.toNatClampNeg)) :: [])) rfl ?_
    refine lv_astore (lv' := [(4, .ref (ad (5, p0.toNatClampNeg))), (0, .ref (ad (9, 0))), (1, .int p0), (2, .int p1), (3, .int p2)]) hx hb dX10_note_5 hl (by decide) rfl (fun ls hl => ?_)
    refine lv_aload hx hb dX10_note_7 (lv_at hl 0 rfl) ?_
    refine lv_ifnull hx hb dX10_note_9 ?_
    refine lv_iload_n hx hb dX10_note_12 rfl (lv_at hl 3 rfl) ?_
    refine lv_iconst (v := 0) hx hb dX10_note_13 (by decide) ?_
    refine lv_iconst (v := 2) hx hb dX10_note_14 (by decide) ?_
    refine vp_callSi (W.runS (As := [.int p1, .int 0, .int 2]) (rest := []) ⟨hx, hb, hml, hown, hts⟩ (c_X10_isWithin l p1 0 2) (va_cwS 3 hts gX10_note_X10_isWithin rfl rfl rfl (by decide +kernel) ⟨Nat.le_of_ble_eq_true rfl, Nat.le_of_ble_eq_true rfl⟩) ⟨fun _ _ _ _ q => q, fun U hU hW => ⟨rfl, trivial⟩⟩ rfl rfl hl.1 rfl (lv_room (Nat.le_of_ble_eq_true rfl)) dX10_note_15 ⟨Nat.zero_le _, Nat.zero_le _⟩) (fun r hr9 => ?_)
    subst hr9
    refine lv_if_eq (tgt := 33) hx hb dX10_note_18 (by decide) (fun c2 => ?_) (fun c2 => ?_)
    · replace c2 := bo_f c2
      refine lv_iconst (v := (-1)) hx hb dX10_note_33 (by decide) ?_
      have E9 : s_X11_note F M p0 p1 p2 = ((-1), (F, M)) := by unfold s_X11_note; rw [if_pos c1]; rw [if_neg c2]
      refine W.widen (k := 1) (n := 3) (Nat.le_of_ble_eq_true rfl) (Nat.le_of_ble_eq_true rfl) ?_
      exact W.iret (v := (-1)) hx hb hr (fun t ht hW => ⟨⟨(-1), (ad, rl, Y), rfl, by rw [E9], by rw [E9]; exact ⟨⟨⟨by rw [ht]; exact hP, va_K.moved hW.alike hK, nst_w hW hN⟩, hD⟩, hrl, rfl⟩⟩, hS.F ht⟩) hS.2.2 dX10_note_34
    · replace c2 := bo_t c2
      refine lv_iload_n hx hb dX10_note_21 rfl (lv_at hl 4 rfl) ?_
      refine lv_iconst (v := 0) hx hb dX10_note_22 (by decide) ?_
      refine lv_aload_n hx hb dX10_note_23 rfl (lv_at hl 1 rfl) ?_
      refine rg_get (D := (dC, dI)) (r := (9, 0)) (ci := 9) (v := .int (F 3)) (C := RX10) (T := TX10) (N := 19) hx hb hts hin10 hown hK hP ((hrl _).mpr (vd_9 (by decide))) en_9 rfl 0 (by decide) (hts (.fieldLink RX10 65 "SocietyBook" "today" "I") (by decide +kernel)) (fun _ h9 => h9) rfl dX10_note_24 ?_
      refine vp_callSi (W.runS (As := [.int p2, .int 0, .int (F 3)]) (rest := []) ⟨hx, hb, hml, hown, hts⟩ (c_X10_isWithin l p2 0 (F 3)) (va_cwS 3 hts gX10_note_X10_isWithin rfl rfl rfl (by decide +kernel) ⟨Nat.le_of_ble_eq_true rfl, Nat.le_of_ble_eq_true rfl⟩) ⟨fun _ _ _ _ q => q, fun U hU hW => ⟨rfl, trivial⟩⟩ rfl rfl hl.1 rfl (lv_room (Nat.le_of_ble_eq_true rfl)) dX10_note_27 ⟨Nat.zero_le _, Nat.zero_le _⟩) (fun r hr9 => ?_)
      subst hr9
      refine lv_if_ne (tgt := 35) hx hb dX10_note_30 (by decide) (fun c3 => ?_) (fun c3 => ?_)
      · replace c3 := bo_t c3
        refine lv_aload_n hx hb dX10_note_35 rfl (lv_at hl 1 rfl) ?_
        refine rg_get (D := (dC, dI)) (r := (9, 0)) (ci := 9) (v := .int (F 16)) (C := RX10) (T := TX10) (N := 19) hx hb hts hin10 hown hK hP ((hrl _).mpr (vd_9 (by decide))) en_9 rfl 5 (by decide) (hts (.fieldLink RX10 105 "SocietyBook" "noteCount" "I") (by decide +kernel)) (fun _ h9 => h9) rfl dX10_note_36 ?_
        refine lv_bipush (v := 100) hx hb dX10_note_39 (by decide) ?_
        refine lv_icmp_lt (tgt := 47) hx hb dX10_note_41 (by decide) (fun c4 => ?_) (fun c4 => ?_)
        · refine lv_aload hx hb dX10_note_47 (lv_at hl 0 rfl) ?_
          refine lv_iload_n hx hb dX10_note_49 rfl (lv_at hl 3 rfl) ?_
          refine lv_iload_n hx hb dX10_note_50 rfl (lv_at hl 4 rfl) ?_
          refine vp_callSi (W.runV (As := [.int p1, .int p2]) (rest := []) ⟨hx, hb, hml, hown, hts⟩ (c_X5_admits l dC dI rl ad cy F M Y p0.toNatClampNeg p1 p2 hrl hI hJ (ix_cn c1 (iv_7 hI).1) c2) (cwV 2 hts gX10_note_X5_admits rfl rfl rfl (by decide +kernel) ⟨Nat.le_of_ble_eq_true rfl, Nat.le_of_ble_eq_true rfl⟩) ⟨pc_blind, rg_recv hK hP ((hrl _).mpr (vd_5 (ix_cn c1 (iv_7 hI).1))) (ci := 5) rfl en_5, fun U hU hW => ⟨rfl, by rw [hU]; exact hP, va_K.moved hW.alike hK, nst_w hW hN⟩⟩ rfl rfl hl.1 rfl (lv_room (Nat.le_of_ble_eq_true rfl)) dX10_note_51 ⟨Nat.zero_le _, Nat.zero_le _⟩) (fun r hr9 => ?_)
          subst hr9
          rw [nI_bk (x := p0) c1.1]
          refine lv_if_ne (tgt := 60) hx hb dX10_note_54 (by decide) (fun c5 => ?_) (fun c5 => ?_)
          · refine lv_aload hx hb dX10_note_60 (lv_at hl 0 rfl) ?_
            refine rg_get (D := (dC, dI)) (r := (5, p0.toNatClampNeg)) (ci := 5) (v := .ref (ad (15, p0.toNatClampNeg))) (C := RX5) (T := TX5) (N := 9) hx hb hts hin5 hown hK hP ((hrl _).mpr (vd_5 (ix_cn c1 (iv_7 hI).1))) en_5 rfl 8 (by decide) (hts (.fieldLink RX10 112 "SocietyBook$Paper" "lastNotes" "[LSocietyBook$Note;") (by decide +kernel)) (fun _ h9 => h9) rfl dX10_note_62 ?_
            refine lv_iload_n hx hb dX10_note_65 rfl (lv_at hl 3 rfl) ?_
            refine rg_new (r := (4, (F 16).toNatClampNeg)) (ci := 4) (fs := [.int 0, .int 0, .null]) hx hb hts hin4 tyX4 tyX4_ok hown (hts (.classLink RX10 116 RX4) (by decide +kernel)) (hts (.instantiable RX4 3) (by decide +kernel)) (hts (.initialized RX4) (by decide +kernel)) hK hP hD hS hA rfl (by decide) (Nat.le_of_ble_eq_true rfl) (Nat.le_of_ble_eq_true rfl) dX10_note_66 (fun q => al_n4 ((hrl _).mp q)) (fun a2 H h2 hP hD hS => ?_)
            have hw := al_w h2 al_n4
            replace hP := al_P h2 hrl al_n4 (Or.inr (Or.inr (Or.inl rfl))) hP
            refine W.eq (g2 := F0 m 69 ls (.ref (a2 (4, (F 16).toNatClampNeg)) :: .int p1 :: .ref (a2 (15, p0.toNatClampNeg)) :: [])) (by rw [hw (15, p0.toNatClampNeg) (vd_15 (ix_cn c1 (iv_7 hI).1))]) ?_
            rw [hw (5, p0.toNatClampNeg) (vd_5 (ix_cn c1 (iv_7 hI).1)), hw (9, 0) (vd_9 (by decide))] at hl
            replace hP : va_P (dC, dI) vwCl (rx_W (rl ++ [(4, (F 16).toNatClampNeg)]) a2 (ru_ (eC a2 cy F M Y) (4, (F 16).toNatClampNeg) (.inr (4, [.int 0, .int 0, .null])))) H := hP
            replace hD : va_D A (rx_W (rl ++ [(4, (F 16).toNatClampNeg)]) a2 (ru_ (eC a2 cy F M Y) (4, (F 16).toNatClampNeg) (.inr (4, [.int 0, .int 0, .null])))) := rx_D hD
            refine lv_dup hx hb dX10_note_69 rfl ?_
            refine lv_iload_n hx hb dX10_note_70 rfl (lv_at hl 4 rfl) ?_
            refine lv_aload_n hx hb dX10_note_71 rfl (lv_at hl 1 rfl) ?_
            refine rg_get (D := (dC, dI)) (r := (9, 0)) (ci := 9) (v := .int (F 3)) (C := RX10) (T := TX10) (N := 19) hx hb hts hin10 hown hK hP (List.mem_append_left _ ((hrl _).mpr (vd_9 (by decide)))) ((ru_n (by intro q; cases q)).trans en_9) rfl 0 (by decide) (hts (.fieldLink RX10 65 "SocietyBook" "today" "I") (by decide +kernel)) (fun _ h9 => h9) rfl dX10_note_72 ?_
            refine lv_aload hx hb dX10_note_75 (lv_at hl 0 rfl) ?_
            refine rg_get (D := (dC, dI)) (r := (5, p0.toNatClampNeg)) (ci := 5) (v := .ref (a2 (15, p0.toNatClampNeg))) (C := RX5) (T := TX5) (N := 9) hx hb hts hin5 hown hK hP (List.mem_append_left _ ((hrl _).mpr (vd_5 (ix_cn c1 (iv_7 hI).1)))) ((ru_n (by intro q; cases q)).trans en_5) rfl 8 (by decide) (hts (.fieldLink RX10 112 "SocietyBook$Paper" "lastNotes" "[LSocietyBook$Note;") (by decide +kernel)) (fun _ h9 => h9) rfl dX10_note_77 ?_
            refine lv_iload_n hx hb dX10_note_80 rfl (lv_at hl 3 rfl) ?_
            refine rg_aldq (r := (15, p0.toNatClampNeg)) (v := va_rf ((lt_N (M 17) (M 18) (nI p0.toNatClampNeg) (nI p1.toNatClampNeg) (F 16).toNatClampNeg).map (fun j => a2 (4, j)))) hx hb hK hP (List.mem_append_left _ ((hrl _).mpr (vd_15 (ix_cn c1 (iv_7 hI).1)))) 7 ((ru_n (by intro q; cases q)).trans en_15) rfl (ib_in c2 (by decide)) (by exact congrArg va_rf (if_pos (ib_cl (ib_in c2 (by decide))).2)) dX10_note_81 ?_
            rcases hN6 : lt_N (M 17) (M 18) (nI p0.toNatClampNeg) (nI p1.toNatClampNeg) (F 16).toNatClampNeg with _ | k7
            · refine W.eq (g2 := F0 m 82 ls (.null :: .int (F 3) :: .int p2 :: .ref (a2 (4, (F 16).toNatClampNeg)) :: .ref (a2 (4, (F 16).toNatClampNeg)) :: .int p1 :: .ref (a2 (15, p0.toNatClampNeg)) :: [])) rfl ?_
              refine va_callv (va_runI (As := [.int p2, .int (F 3), .null]) (rest := [.ref (a2 (4, (F 16).toNatClampNeg)), .int p1, .ref (a2 (15, p0.toNatClampNeg))]) ⟨hx, hb, hml, hown, hts⟩ (c_X4_initN l dC dI (rl ++ [(4, (F 16).toNatClampNeg)]) a2 cy (ru_ (eC a2 cy F M Y) (4, (F 16).toNatClampNeg) (.inr (4, [.int 0, .int 0, .null]))) (4, (F 16).toNatClampNeg) p2 (F 3) 0 0 (List.mem_append_right _ (List.mem_singleton.mpr rfl)) ru_s A hD ) (cwI 3 hts gX10_note_X4_init rfl rfl rfl (hts (.initialized RX4) (by decide +kernel)) (hts (.methodLink RX10 118 yX4_init) (by decide +kernel)) (hts (.instanceMethod yX4_init) (by decide +kernel)) rfl (by decide +kernel) ⟨Nat.le_of_ble_eq_true rfl, Nat.le_of_ble_eq_true rfl⟩) ⟨pc_blind, fun U hU hW => ⟨rfl, by rw [hU]; exact hP, va_K.moved hW.alike hK, nst_w hW hN⟩⟩ rfl rfl hl.1 rfl (lv_room (Nat.le_of_ble_eq_true rfl)) dX10_note_82 ⟨Nat.le_of_ble_eq_true rfl, Nat.le_of_ble_eq_true rfl⟩) hS (fun q _ h => h) (fun q h => h) (fun u t H1 locs ht hvm hw9 hB hz1 hk1 hS => ?_)
              obtain ⟨⟨hP, -, -⟩, hD⟩ := hB
              rw [ht] at hP
              clear hz1 hk1 ht hvm; generalize H1 = H at hP hS ⊢
              rw [ru_ru] at hP hD
              replace hP : va_P (dC, dI) vwCl (rx_W (rl ++ [(4, (F 16).toNatClampNeg)]) a2 (ru_ (eC a2 cy F M Y) (4, (F 16).toNatClampNeg) (.inr (4, [.int p2, .int (F 3), .null])))) H := hP
              replace hD : va_D A (rx_W (rl ++ [(4, (F 16).toNatClampNeg)]) a2 (ru_ (eC a2 cy F M Y) (4, (F 16).toNatClampNeg) (.inr (4, [.int p2, .int (F 3), .null])))) := hD
              refine rg_astq (r := (15, p0.toNatClampNeg)) (x := (4, (F 16).toNatClampNeg)) hx hb hK hP hD hS (List.mem_append_left _ ((hrl _).mpr (vd_15 (ix_cn c1 (iv_7 hI).1)))) 7 4 (List.mem_append_right _ (List.mem_singleton.mpr rfl)) ((ru_n (by intro q; cases q)).trans en_15) rfl ru_s rfl (ib_in c2 (by decide)) dX10_note_85 (fun H locs hP hD hS => ?_)
              replace hP : va_P (dC, dI) vwCl (rx_W (rl ++ [(4, (F 16).toNatClampNeg)]) a2 (ru_ (ru_ (eC a2 cy F M Y) (4, (F 16).toNatClampNeg) (.inr (4, [.int p2, .int (F 3), .null]))) (15, p0.toNatClampNeg) (.inl (cy 7, 3, rf_ (va_up (fun w => if w < 3 then (lt_N (M 17) (M 18) (nI p0.toNatClampNeg) (nI w) (F 16).toNatClampNeg).map (fun j => a2 (4, j)) else none) p1.toNatClampNeg (some (a2 (4, (F 16).toNatClampNeg)))))))) H := hP
              replace hD : va_D A (rx_W (rl ++ [(4, (F 16).toNatClampNeg)]) a2 (ru_ (ru_ (eC a2 cy F M Y) (4, (F 16).toNatClampNeg) (.inr (4, [.int p2, .int (F 3), .null]))) (15, p0.toNatClampNeg) (.inl (cy 7, 3, rf_ (va_up (fun w => if w < 3 then (lt_N (M 17) (M 18) (nI p0.toNatClampNeg) (nI w) (F 16).toNatClampNeg).map (fun j => a2 (4, j)) else none) p1.toNatClampNeg (some (a2 (4, (F 16).toNatClampNeg)))))))) := hD
              refine lv_aload_n hx hb dX10_note_86 rfl (lv_at hl 1 rfl) ?_
              refine lv_dup hx hb dX10_note_87 rfl ?_
              refine rg_get (D := (dC, dI)) (r := (9, 0)) (ci := 9) (v := .int (F 16)) (C := RX10) (T := TX10) (N := 19) hx hb hts hin10 hown hK hP (List.mem_append_left _ ((hrl _).mpr (vd_9 (by decide)))) ((ru_n (by intro q; cases q)).trans ((ru_n (by intro q; cases q)).trans en_9)) rfl 5 (by decide) (hts (.fieldLink RX10 105 "SocietyBook" "noteCount" "I") (by decide +kernel)) (fun _ h9 => h9) rfl dX10_note_88 ?_
              refine lv_iconst (v := 1) hx hb dX10_note_91 (by decide) ?_
              refine lv_iadd hx hb dX10_note_92 ?_
              refine rg_put (D := (dC, dI)) (r := (9, 0)) (ci := 9) (v := .int ((F 16) + 1)) (ty := .int) (C := RX10) (T := TX10) (N := 19) hx hb hts hin10 tyX10 tyX10_ok nmX10 hown hK hP hD hS (List.mem_append_left _ ((hrl _).mpr (vd_9 (by decide)))) ((ru_n (by intro q; cases q)).trans ((ru_n (by intro q; cases q)).trans en_9)) rfl 5 (by decide) (hts (.fieldLink RX10 105 "SocietyBook" "noteCount" "I") (by decide +kernel)) (fun _ h9 => h9) rfl (by decide +kernel) rfl rfl (Nat.le_of_ble_eq_true rfl) dX10_note_93 (fun H locs hP hD hS => ?_)
              replace hP : va_P (dC, dI) vwCl (rx_W (rl ++ [(4, (F 16).toNatClampNeg)]) a2 (ru_ (ru_ (ru_ (eC a2 cy F M Y) (4, (F 16).toNatClampNeg) (.inr (4, [.int p2, .int (F 3), .null]))) (15, p0.toNatClampNeg) (.inl (cy 7, 3, rf_ (va_up (fun w => if w < 3 then (lt_N (M 17) (M 18) (nI p0.toNatClampNeg) (nI w) (F 16).toNatClampNeg).map (fun j => a2 (4, j)) else none) p1.toNatClampNeg (some (a2 (4, (F 16).toNatClampNeg))))))) (9, 0) (.inr (9, [.int (F 3), .int (F 4), .ref (a2 (10, 0)), .ref (a2 (11, 0)), .int (F 7), .int ((F 16) + 1), .ref (a2 (12, 0)), .int (F 21), .ref (a2 (13, 0)), .int (F 25), .ref (a2 (14, 0)), .int (F 32), .ref (a2 (16, 0)), .int (F 38), .ref (a2 (2, 0)), .ref (a2 (17, 0)), .int (F 2), .int (F 0), .ref (a2 (18, 0))])))) H := hP
              replace hD : va_D A (rx_W (rl ++ [(4, (F 16).toNatClampNeg)]) a2 (ru_ (ru_ (ru_ (eC a2 cy F M Y) (4, (F 16).toNatClampNeg) (.inr (4, [.int p2, .int (F 3), .null]))) (15, p0.toNatClampNeg) (.inl (cy 7, 3, rf_ (va_up (fun w => if w < 3 then (lt_N (M 17) (M 18) (nI p0.toNatClampNeg) (nI w) (F 16).toNatClampNeg).map (fun j => a2 (4, j)) else none) p1.toNatClampNeg (some (a2 (4, (F 16).toNatClampNeg))))))) (9, 0) (.inr (9, [.int (F 3), .int (F 4), .ref (a2 (10, 0)), .ref (a2 (11, 0)), .int (F 7), .int ((F 16) + 1), .ref (a2 (12, 0)), .int (F 21), .ref (a2 (13, 0)), .int (F 25), .ref (a2 (14, 0)), .int (F 32), .ref (a2 (16, 0)), .int (F 38), .ref (a2 (2, 0)), .ref (a2 (17, 0)), .int (F 2), .int (F 0), .ref (a2 (18, 0))])))) := hD
              refine lv_aload_n hx hb dX10_note_96 rfl (lv_at hl 1 rfl) ?_
              refine rg_get (D := (dC, dI)) (r := (9, 0)) (ci := 9) (v := .int ((F 16) + 1)) (C := RX10) (T := TX10) (N := 19) hx hb hts hin10 hown hK hP (List.mem_append_left _ ((hrl _).mpr (vd_9 (by decide)))) ru_s rfl 5 (by decide) (hts (.fieldLink RX10 105 "SocietyBook" "noteCount" "I") (by decide +kernel)) (fun _ h9 => h9) rfl dX10_note_97 ?_
              have E9 : s_X11_note F M p0 p1 p2 = ((F 16) + 1, (va_up F 16 ((F 16) + 1), va_up (va_up (va_up (va_up M 17 (upd (M 17) ((F 16).toNatClampNeg) p0)) 18 (upd (M 18) ((F 16).toNatClampNeg) p1)) 19 (upd (M 19) ((F 16).toNatClampNeg) p2)) 20 (upd (M 20) ((F 16).toNatClampNeg) (F 3)))) := by unfold s_X11_note; rw [if_pos c1]; rw [if_pos c2]; rw [if_pos c3]; rw [if_neg (fu_f (Int32.not_le.mpr c4))]; rw [if_neg c5]; skip
              have hv9 := al_v4 hrl (ib_ct (iv_16 hI) (fu_f (Int32.not_le.mpr c4)) (by decide))
              replace hP : va_P (dC, dI) vwCl (rx_W (rl ++ [(4, (F 16).toNatClampNeg)]) a2 (eC a2 cy (va_up F 16 ((F 16) + 1)) (va_up (va_up (va_up (va_up M 17 (upd (M 17) ((F 16).toNatClampNeg) p0)) 18 (upd (M 18) ((F 16).toNatClampNeg) p1)) 19 (upd (M 19) ((F 16).toNatClampNeg) p2)) 20 (upd (M 20) ((F 16).toNatClampNeg) (F 3))) Y)) H := by rw [← rx_cong (fun r hr => al_e4 a2 cy F M Y p0 p1 p2 c1.1 c2.1 (ib_cl (ib_in c2 (by decide))).2 (ib_ct (iv_16 hI) (fu_f (Int32.not_le.mpr c4)) (by decide)) (none) hN6 r ((hv9 r).mp hr))]; exact hP
              replace hD : va_D A (rx_W (rl ++ [(4, (F 16).toNatClampNeg)]) a2 (eC a2 cy (va_up F 16 ((F 16) + 1)) (va_up (va_up (va_up (va_up M 17 (upd (M 17) ((F 16).toNatClampNeg) p0)) 18 (upd (M 18) ((F 16).toNatClampNeg) p1)) 19 (upd (M 19) ((F 16).toNatClampNeg) p2)) 20 (upd (M 20) ((F 16).toNatClampNeg) (F 3))) Y)) := rx_D hD
              exact W.iret (v := (F 16) + 1) hx hb hr (fun t ht hW => ⟨⟨(F 16) + 1, (a2, rl ++ [(4, (F 16).toNatClampNeg)], Y), rfl, by rw [E9], by rw [E9]; exact ⟨⟨⟨by rw [ht]; exact hP, va_K.moved hW.alike hK, nst_w hW hN⟩, hD⟩, hv9, (hw _ (vd_9 (by decide))).symm⟩⟩, hS.F ht⟩) hS.2.2 dX10_note_100
            · refine W.eq (g2 := F0 m 82 ls (.ref (a2 (4, k7)) :: .int (F 3) :: .int p2 :: .ref (a2 (4, (F 16).toNatClampNeg)) :: .ref (a2 (4, (F 16).toNatClampNeg)) :: .int p1 :: .ref (a2 (15, p0.toNatClampNeg)) :: [])) rfl ?_
              refine va_callv (va_runI (As := [.int p2, .int (F 3), .ref (a2 (4, k7))]) (rest := [.ref (a2 (4, (F 16).toNatClampNeg)), .int p1, .ref (a2 (15, p0.toNatClampNeg))]) ⟨hx, hb, hml, hown, hts⟩ (c_X4_initS l dC dI (rl ++ [(4, (F 16).toNatClampNeg)]) a2 cy (ru_ (eC a2 cy F M Y) (4, (F 16).toNatClampNeg) (.inr (4, [.int 0, .int 0, .null]))) (4, (F 16).toNatClampNeg) p2 (F 3) (a2 (4, k7)) 0 0 (List.mem_append_right _ (List.mem_singleton.mpr rfl)) ru_s A hD ) (cwI 3 hts gX10_note_X4_init rfl rfl rfl (hts (.initialized RX4) (by decide +kernel)) (hts (.methodLink RX10 118 yX4_init) (by decide +kernel)) (hts (.instanceMethod yX4_init) (by decide +kernel)) rfl (by decide +kernel) ⟨Nat.le_of_ble_eq_true rfl, Nat.le_of_ble_eq_true rfl⟩) ⟨pc_blind, fun U hU hW => ⟨rfl, by rw [hU]; exact hP, va_K.moved hW.alike hK, nst_w hW hN⟩⟩ rfl rfl hl.1 rfl (lv_room (Nat.le_of_ble_eq_true rfl)) dX10_note_82 ⟨Nat.le_of_ble_eq_true rfl, Nat.le_of_ble_eq_true rfl⟩) hS (fun q _ h => h) (fun q h => h) (fun u t H1 locs ht hvm hw9 hB hz1 hk1 hS => ?_)
              obtain ⟨⟨hP, -, -⟩, hD⟩ := hB
              rw [ht] at hP
              clear hz1 hk1 ht hvm; generalize H1 = H at hP hS ⊢
              rw [ru_ru] at hP hD
              replace hP : va_P (dC, dI) vwCl (rx_W (rl ++ [(4, (F 16).toNatClampNeg)]) a2 (ru_ (eC a2 cy F M Y) (4, (F 16).toNatClampNeg) (.inr (4, [.int p2, .int (F 3), .ref (a2 (4, k7))])))) H := hP
              replace hD : va_D A (rx_W (rl ++ [(4, (F 16).toNatClampNeg)]) a2 (ru_ (eC a2 cy F M Y) (4, (F 16).toNatClampNeg) (.inr (4, [.int p2, .int (F 3), .ref (a2 (4, k7))])))) := hD
              refine rg_astq (r := (15, p0.toNatClampNeg)) (x := (4, (F 16).toNatClampNeg)) hx hb hK hP hD hS (List.mem_append_left _ ((hrl _).mpr (vd_15 (ix_cn c1 (iv_7 hI).1)))) 7 4 (List.mem_append_right _ (List.mem_singleton.mpr rfl)) ((ru_n (by intro q; cases q)).trans en_15) rfl ru_s rfl (ib_in c2 (by decide)) dX10_note_85 (fun H locs hP hD hS => ?_)
              replace hP : va_P (dC, dI) vwCl (rx_W (rl ++ [(4, (F 16).toNatClampNeg)]) a2 (ru_ (ru_ (eC a2 cy F M Y) (4, (F 16).toNatClampNeg) (.inr (4, [.int p2, .int (F 3), .ref (a2 (4, k7))]))) (15, p0.toNatClampNeg) (.inl (cy 7, 3, rf_ (va_up (fun w => if w < 3 then (lt_N (M 17) (M 18) (nI p0.toNatClampNeg) (nI w) (F 16).toNatClampNeg).map (fun j => a2 (4, j)) else none) p1.toNatClampNeg (some (a2 (4, (F 16).toNatClampNeg)))))))) H := hP
              replace hD : va_D A (rx_W (rl ++ [(4, (F 16).toNatClampNeg)]) a2 (ru_ (ru_ (eC a2 cy F M Y) (4, (F 16).toNatClampNeg) (.inr (4, [.int p2, .int (F 3), .ref (a2 (4, k7))]))) (15, p0.toNatClampNeg) (.inl (cy 7, 3, rf_ (va_up (fun w => if w < 3 then (lt_N (M 17) (M 18) (nI p0.toNatClampNeg) (nI w) (F 16).toNatClampNeg).map (fun j => a2 (4, j)) else none) p1.toNatClampNeg (some (a2 (4, (F 16).toNatClampNeg)))))))) := hD
              refine lv_aload_n hx hb dX10_note_86 rfl (lv_at hl 1 rfl) ?_
              refine lv_dup hx hb dX10_note_87 rfl ?_
              refine rg_get (D := (dC, dI)) (r := (9, 0)) (ci := 9) (v := .int (F 16)) (C := RX10) (T := TX10) (N := 19) hx hb hts hin10 hown hK hP (List.mem_append_left _ ((hrl _).mpr (vd_9 (by decide)))) ((ru_n (by intro q; cases q)).trans ((ru_n (by intro q; cases q)).trans en_9)) rfl 5 (by decide) (hts (.fieldLink RX10 105 "SocietyBook" "noteCount" "I") (by decide +kernel)) (fun _ h9 => h9) rfl dX10_note_88 ?_
              refine lv_iconst (v := 1) hx hb dX10_note_91 (by decide) ?_
              refine lv_iadd hx hb dX10_note_92 ?_
              refine rg_put (D := (dC, dI)) (r := (9, 0)) (ci := 9) (v := .int ((F 16) + 1)) (ty := .int) (C := RX10) (T := TX10) (N := 19) hx hb hts hin10 tyX10 tyX10_ok nmX10 hown hK hP hD hS (List.mem_append_left _ ((hrl _).mpr (vd_9 (by decide)))) ((ru_n (by intro q; cases q)).trans ((ru_n (by intro q; cases q)).trans en_9)) rfl 5 (by decide) (hts (.fieldLink RX10 105 "SocietyBook" "noteCount" "I") (by decide +kernel)) (fun _ h9 => h9) rfl (by decide +kernel) rfl rfl (Nat.le_of_ble_eq_true rfl) dX10_note_93 (fun H locs hP hD hS => ?_)
              replace hP : va_P (dC, dI) vwCl (rx_W (rl ++ [(4, (F 16).toNatClampNeg)]) a2 (ru_ (ru_ (ru_ (eC a2 cy F M Y) (4, (F 16).toNatClampNeg) (.inr (4, [.int p2, .int (F 3), .ref (a2 (4, k7))]))) (15, p0.toNatClampNeg) (.inl (cy 7, 3, rf_ (va_up (fun w => if w < 3 then (lt_N (M 17) (M 18) (nI p0.toNatClampNeg) (nI w) (F 16).toNatClampNeg).map (fun j => a2 (4, j)) else none) p1.toNatClampNeg (some (a2 (4, (F 16).toNatClampNeg))))))) (9, 0) (.inr (9, [.int (F 3), .int (F 4), .ref (a2 (10, 0)), .ref (a2 (11, 0)), .int (F 7), .int ((F 16) + 1), .ref (a2 (12, 0)), .int (F 21), .ref (a2 (13, 0)), .int (F 25), .ref (a2 (14, 0)), .int (F 32), .ref (a2 (16, 0)), .int (F 38), .ref (a2 (2, 0)), .ref (a2 (17, 0)), .int (F 2), .int (F 0), .ref (a2 (18, 0))])))) H := hP
              replace hD : va_D A (rx_W (rl ++ [(4, (F 16).toNatClampNeg)]) a2 (ru_ (ru_ (ru_ (eC a2 cy F M Y) (4, (F 16).toNatClampNeg) (.inr (4, [.int p2, .int (F 3), .ref (a2 (4, k7))]))) (15, p0.toNatClampNeg) (.inl (cy 7, 3, rf_ (va_up (fun w => if w < 3 then (lt_N (M 17) (M 18) (nI p0.toNatClampNeg) (nI w) (F 16).toNatClampNeg).map (fun j => a2 (4, j)) else none) p1.toNatClampNeg (some (a2 (4, (F 16).toNatClampNeg))))))) (9, 0) (.inr (9, [.int (F 3), .int (F 4), .ref (a2 (10, 0)), .ref (a2 (11, 0)), .int (F 7), .int ((F 16) + 1), .ref (a2 (12, 0)), .int (F 21), .ref (a2 (13, 0)), .int (F 25), .ref (a2 (14, 0)), .int (F 32), .ref (a2 (16, 0)), .int (F 38), .ref (a2 (2, 0)), .ref (a2 (17, 0)), .int (F 2), .int (F 0), .ref (a2 (18, 0))])))) := hD
              refine lv_aload_n hx hb dX10_note_96 rfl (lv_at hl 1 rfl) ?_
              refine rg_get (D := (dC, dI)) (r := (9, 0)) (ci := 9) (v := .int ((F 16) + 1)) (C := RX10) (T := TX10) (N := 19) hx hb hts hin10 hown hK hP (List.mem_append_left _ ((hrl _).mpr (vd_9 (by decide)))) ru_s rfl 5 (by decide) (hts (.fieldLink RX10 105 "SocietyBook" "noteCount" "I") (by decide +kernel)) (fun _ h9 => h9) rfl dX10_note_97 ?_
              have E9 : s_X11_note F M p0 p1 p2 = ((F 16) + 1, (va_up F 16 ((F 16) + 1), va_up (va_up (va_up (va_up M 17 (upd (M 17) ((F 16).toNatClampNeg) p0)) 18 (upd (M 18) ((F 16).toNatClampNeg) p1)) 19 (upd (M 19) ((F 16).toNatClampNeg) p2)) 20 (upd (M 20) ((F 16).toNatClampNeg) (F 3)))) := by unfold s_X11_note; rw [if_pos c1]; rw [if_pos c2]; rw [if_pos c3]; rw [if_neg (fu_f (Int32.not_le.mpr c4))]; rw [if_neg c5]; skip
              have hv9 := al_v4 hrl (ib_ct (iv_16 hI) (fu_f (Int32.not_le.mpr c4)) (by decide))
              replace hP : va_P (dC, dI) vwCl (rx_W (rl ++ [(4, (F 16).toNatClampNeg)]) a2 (eC a2 cy (va_up F 16 ((F 16) + 1)) (va_up (va_up (va_up (va_up M 17 (upd (M 17) ((F 16).toNatClampNeg) p0)) 18 (upd (M 18) ((F 16).toNatClampNeg) p1)) 19 (upd (M 19) ((F 16).toNatClampNeg) p2)) 20 (upd (M 20) ((F 16).toNatClampNeg) (F 3))) Y)) H := by rw [← rx_cong (fun r hr => al_e4 a2 cy F M Y p0 p1 p2 c1.1 c2.1 (ib_cl (ib_in c2 (by decide))).2 (ib_ct (iv_16 hI) (fu_f (Int32.not_le.mpr c4)) (by decide)) (some k7) hN6 r ((hv9 r).mp hr))]; exact hP
              replace hD : va_D A (rx_W (rl ++ [(4, (F 16).toNatClampNeg)]) a2 (eC a2 cy (va_up F 16 ((F 16) + 1)) (va_up (va_up (va_up (va_up M 17 (upd (M 17) ((F 16).toNatClampNeg) p0)) 18 (upd (M 18) ((F 16).toNatClampNeg) p1)) 19 (upd (M 19) ((F 16).toNatClampNeg) p2)) 20 (upd (M 20) ((F 16).toNatClampNeg) (F 3))) Y)) := rx_D hD
              exact W.iret (v := (F 16) + 1) hx hb hr (fun t ht hW => ⟨⟨(F 16) + 1, (a2, rl ++ [(4, (F 16).toNatClampNeg)], Y), rfl, by rw [E9], by rw [E9]; exact ⟨⟨⟨by rw [ht]; exact hP, va_K.moved hW.alike hK, nst_w hW hN⟩, hD⟩, hv9, (hw _ (vd_9 (by decide))).symm⟩⟩, hS.F ht⟩) hS.2.2 dX10_note_100
          · refine lv_bipush (v := (-4)) hx hb dX10_note_57 (by decide) ?_
            have E9 : s_X11_note F M p0 p1 p2 = ((-4), (F, M)) := by unfold s_X11_note; rw [if_pos c1]; rw [if_pos c2]; rw [if_pos c3]; rw [if_neg (fu_f (Int32.not_le.mpr c4))]; rw [if_pos c5]
            refine W.widen (k := 1) (n := 3) (Nat.le_of_ble_eq_true rfl) (Nat.le_of_ble_eq_true rfl) ?_
            exact W.iret (v := (-4)) hx hb hr (fun t ht hW => ⟨⟨(-4), (ad, rl, Y), rfl, by rw [E9], by rw [E9]; exact ⟨⟨⟨by rw [ht]; exact hP, va_K.moved hW.alike hK, nst_w hW hN⟩, hD⟩, hrl, rfl⟩⟩, hS.F ht⟩) hS.2.2 dX10_note_59
        · refine lv_bipush (v := (-2)) hx hb dX10_note_44 (by decide) ?_
          have E9 : s_X11_note F M p0 p1 p2 = ((-2), (F, M)) := by unfold s_X11_note; rw [if_pos c1]; rw [if_pos c2]; rw [if_pos c3]; rw [if_pos (fu_t (iv_16 hI) (Int32.not_lt.mp c4))]
          refine W.widen (k := 1) (n := 3) (Nat.le_of_ble_eq_true rfl) (Nat.le_of_ble_eq_true rfl) ?_
          exact W.iret (v := (-2)) hx hb hr (fun t ht hW => ⟨⟨(-2), (ad, rl, Y), rfl, by rw [E9], by rw [E9]; exact ⟨⟨⟨by rw [ht]; exact hP, va_K.moved hW.alike hK, nst_w hW hN⟩, hD⟩, hrl, rfl⟩⟩, hS.F ht⟩) hS.2.2 dX10_note_46
      · replace c3 := bo_f c3
        refine lv_iconst (v := (-1)) hx hb dX10_note_33 (by decide) ?_
        have E9 : s_X11_note F M p0 p1 p2 = ((-1), (F, M)) := by unfold s_X11_note; rw [if_pos c1]; rw [if_pos c2]; rw [if_neg c3]
        refine W.widen (k := 1) (n := 3) (Nat.le_of_ble_eq_true rfl) (Nat.le_of_ble_eq_true rfl) ?_
        exact W.iret (v := (-1)) hx hb hr (fun t ht hW => ⟨⟨(-1), (ad, rl, Y), rfl, by rw [E9], by rw [E9]; exact ⟨⟨⟨by rw [ht]; exact hP, va_K.moved hW.alike hK, nst_w hW hN⟩, hD⟩, hrl, rfl⟩⟩, hS.F ht⟩) hS.2.2 dX10_note_34
  · rw [if_neg c1]
    refine W.eq (g2 := F0 m 5 ls (.null :: [])) rfl ?_
    refine lv_astoreN (lv' := [(4, .null), (0, .ref (ad (9, 0))), (1, .int p0), (2, .int p1), (3, .int p2)]) hx hb dX10_note_5 hl (by decide) rfl (fun ls hl => ?_)
    refine lv_aloadN hx hb dX10_note_7 (lv_at hl 0 rfl) ?_
    refine lv_ifnullN (tgt := 33) hx hb dX10_note_9 (by decide) ?_
    refine lv_iconst (v := (-1)) hx hb dX10_note_33 (by decide) ?_
    have E9 : s_X11_note F M p0 p1 p2 = ((-1), (F, M)) := by unfold s_X11_note; rw [if_neg c1]
    refine W.widen (k := 1) (n := 3) (Nat.le_of_ble_eq_true rfl) (Nat.le_of_ble_eq_true rfl) ?_
    exact W.iret (v := (-1)) hx hb hr (fun t ht hW => ⟨⟨(-1), (ad, rl, Y), rfl, by rw [E9], by rw [E9]; exact ⟨⟨⟨by rw [ht]; exact hP, va_K.moved hW.alike hK, nst_w hW hN⟩, hD⟩, hrl, rfl⟩⟩, hS.F ht⟩) hS.2.2 dX10_note_34
