
def qA (A : Nat → Prop) (dC : Nat → ClassId) (dI : Nat → Nat → Nat) (h : Nat) (cy : Nat → ClassId) (F : Nat → Int32) (M : Nat → Nat → Int32) (u : (Nat × Nat → Nat) × List (Nat × Nat) × (Nat → Nat → Int32)) (t : State) : Prop := qC A dC dI u.2.1 u.1 cy F M u.2.2 t ∧ (∀ r, r ∈ u.2.1 ↔ vd F r) ∧ u.1 (9, 0) = h
def pA (A : Nat → Prop) (dC : Nat → ClassId) (dI : Nat → Nat → Nat) (rl : List (Nat × Nat)) (ad : Nat × Nat → Nat) (cy : Nat → ClassId) (en : Nat × Nat → va_E) : State → Prop := fun U => (∀ q, U.heap.size ≤ q → A q) ∧ pC dC dI rl ad cy en U
theorem pa_blind {A : Nat → Prop} {av : List Value} {dC : Nat → ClassId} {dI : Nat → Nat → Nat} {rl : List (Nat × Nat)} {ad : Nat × Nat → Nat} {cy : Nat → ClassId} {en : Nat × Nat → va_E} : FrameBlind (va_Pc av (pA A dC dI rl ad cy en)) := fun a U g mk q => ⟨q.1, q.2.1, q.2.2.1, va_K.moved (u := U) (U := U.calling g mk a) (Vm.Alike.refl U.vm) q.2.2.2.1, nst_b q.2.2.2.2⟩
theorem al_P {D : va_G} {cl : List vw_C} {rl : List (Nat × Nat)} {H : Heap} {ad a2 : Nat × Nat → Nat} {cy : Nat → ClassId} {F : Nat → Int32} {M Y : Nat → Nat → Int32} {r : Nat × Nat} {e : va_E} (h2 : ∀ x, ¬ x = r → a2 x = ad x) (hrl : ∀ r, r ∈ rl ↔ vd F r) (hr : ¬ vd F r) (hk : r.1 = 0 ∨ r.1 = 1 ∨ r.1 = 4 ∨ r.1 = 5 ∨ r.1 = 8 ∨ r.1 = 15) (hP : va_P D cl (rx_W (rl ++ [r]) a2 (ru_ (eC ad cy F M Y) r e)) H) : va_P D cl (rx_W (rl ++ [r]) a2 (ru_ (eC a2 cy F M Y) r e)) H := by
  rw [← rx_cong (fun x hx => ?_)]
  · exact hP
  · by_cases q : x = r
    · rw [q, ru_s, ru_s]
    · rw [ru_n q, ru_n q]
      rcases List.mem_append.mp hx with h | h
      · exact eC_ad h2 hr hk x ((hrl x).mp h)
      · exact absurd (List.mem_singleton.mp h) q
theorem al_w {F : Nat → Int32} {ad a2 : Nat × Nat → Nat} {r : Nat × Nat} (h2 : ∀ x, ¬ x = r → a2 x = ad x) (hr : ¬ vd F r) : ∀ x, vd F x → ad x = a2 x := fun x hx => (h2 x (fun q => hr (q ▸ hx))).symm

theorem al_n8 {F : Nat → Int32} : ¬ vd F (8, (F 21).toNatClampNeg) := by
  intro h
  simp [vd] at h
theorem al_v8 {F : Nat → Int32} {rl : List (Nat × Nat)} (hrl : ∀ r, r ∈ rl ↔ vd F r) (hn : vp_in (F 21) 12) : ∀ r, r ∈ rl ++ [(8, (F 21).toNatClampNeg)] ↔ vd (va_up F 21 (F 21 + 1)) r := by
  have hcl := cl_s hn (by decide)
  rintro ⟨c, i⟩
  rw [List.mem_append, hrl, List.mem_singleton]
  by_cases h : c = 8
  · subst h
    simp [vd, va_up, hcl]
    omega
  · simp [vd, va_up, h]
theorem al_e8 (ad : Nat × Nat → Nat) (cy : Nat → ClassId) (F : Nat → Int32) (M Y : Nat → Nat → Int32) (p0 : Int32) (p1 : Int32) (p2 : Int32) (hn : vp_in (F 21) 12) (hz : vp_nar .boolean p2 = p2) (r : Nat × Nat) (hr : vd (va_up F 21 (F 21 + 1)) r) :
    ru_ (ru_ (ru_ (eC ad cy F M Y) (8, (F 21).toNatClampNeg) (.inr (8, [.int p0, .int p1, .int p2]))) (12, 0) (.inl (cy 4, 12, rf_ (va_up (fun i => if i < (F 21).toNatClampNeg then some (ad (8, i)) else none) (F 21).toNatClampNeg (some (ad (8, (F 21).toNatClampNeg))))))) (9, 0) (.inr (9, [.int (F 3), .int (F 4), .ref (ad (10, 0)), .ref (ad (11, 0)), .int (F 7), .int (F 16), .ref (ad (12, 0)), .int (F 21 + 1), .ref (ad (13, 0)), .int (F 25), .ref (ad (14, 0)), .int (F 32), .ref (ad (16, 0)), .int (F 38), .ref (ad (2, 0)), .ref (ad (17, 0)), .int (F 2), .int (F 0), .ref (ad (18, 0))])) r
    = eC ad cy (va_up F 21 ((F 21) + 1)) (va_up (va_up (va_up M 22 (upd (M 22) ((F 21).toNatClampNeg) p0)) 23 (upd (M 23) ((F 21).toNatClampNeg) p1)) 24 (upd (M 24) ((F 21).toNatClampNeg) (vp_nar .boolean p2))) Y r := by
  have hcl := cl_s hn (by decide)
  obtain ⟨c, i⟩ := r
  by_cases q9 : (c, i) = (9, 0)
  · rw [q9, ru_s]; rfl
  · rw [ru_n q9]
    by_cases qa : (c, i) = (12, 0)
    · rw [qa, ru_s, en_12]
      refine congrArg (fun z => Sum.inl (cy 4, 12, rf_ z)) (funext fun x => ?_)
      show va_up _ (F 21).toNatClampNeg _ x = if x < (F 21 + 1).toNatClampNeg then some (ad (8, x)) else none
      rw [hcl]
      unfold va_up
      by_cases e : x = (F 21).toNatClampNeg
      · rw [if_pos e, if_pos (by omega), e]
      · rw [if_neg e]
        show (if x < (F 21).toNatClampNeg then some (ad (8, x)) else none) = _
        by_cases e2 : x < (F 21).toNatClampNeg
        · rw [if_pos e2, if_pos (by omega)]
        · rw [if_neg e2, if_neg (by omega)]
    · rw [ru_n qa]
      by_cases qo : (c, i) = (8, (F 21).toNatClampNeg)
      · rw [qo, ru_s, en_8]
        simp [va_up, upd, hz]
      · rw [ru_n qo]
        by_cases co : c = 8
        · subst co
          have hne : ¬ i = (F 21).toNatClampNeg := fun q => qo (by rw [q])
          rw [en_8, en_8]
          simp [va_up, upd, hne]
        · have ca : ¬ c = 12 := by
            intro q; subst q
            have hi : i < 1 := by simp [vd] at hr; omega
            exact qa (by rw [show i = 0 by omega])
          have c9 : ¬ c = 9 := by
            intro q; subst q
            have hi : i < 1 := by simp [vd] at hr; omega
            exact q9 (by rw [show i = 0 by omega])
          simp [eC, va_up, co, ca, c9]

set_option maxHeartbeats 4000000 in
set_option maxRecDepth 100000 in
theorem c_X10_statute (l : Launch) (dC : Nat → ClassId) (dI : Nat → Nat → Nat) (rl : List (Nat × Nat)) (ad : Nat × Nat → Nat) (cy : Nat → ClassId) (F : Nat → Int32) (M Y : Nat → Nat → Int32) (p0 : Int32) (p1 : Int32) (p2 : Int32) (hrl : ∀ r, r ∈ rl ↔ vd F r) (hI : iv F M) (hJ : jv F M) (A : Nat → Prop) (hD : va_D A (rx_W rl ad (eC ad cy F M Y))) (hz : p2 = 0 ∨ p2 = 1) : Met l yX10_statute wsX10_statute ({ frames := 3, cells := 1, slots := 3, locals := 56 } : Room) (va_Pc [.ref (ad (9, 0)), .int p0, .int p1, .int p2] (pA A dC dI rl ad cy (eC ad cy F M Y))) (va_Qi (fun r (_ : (Nat × Nat → Nat) × List (Nat × Nat) × (Nat → Nat → Int32)) => r = (s_X11_statute F M p0 p1 p2).1) (qA A dC dI (ad (9, 0)) cy (s_X11_statute F M p0 p1 p2).2.1 (s_X11_statute F M p0 p1 p2).2.2) A) 1 3 A := by
  refine Met.ofW (cc := cX10_statute) (maxL := 4) (ret := (some .int)) (by decide) rfl ?_
  intro p e s m args below meth c s₁ B hml hv
  obtain ⟨rfl, hA, hP, hK, hN⟩ := hv
  have hx := B.exec
  have hb := B.bytes
  have hr := B.returns
  have hts := atoms_spec (ws := wsX10_statute) B.pre
  have hown : s.vm.findClass RX10 = some m.cls := findClass_of_methodNamed B.named
  have hlocks := B.notSynchronized
  have hin10 : ∀ w ∈ wsX100, w ∈ wsX10_statute := by decide +kernel
  have hin9 : ∀ w ∈ wsX90, w ∈ wsX10_statute := by decide +kernel
  have hS : va_S A s.heap s.heap [] := va_S.rf
  have hl := lv_entry ([.ref (ad (9, 0)), .int p0, .int p1, .int p2]) (n := 4) (Nat.le_of_ble_eq_true rfl)
  rw [lg_entry_eq]
  generalize (lg_sl ([.ref (ad (9, 0)), .int p0, .int p1, .int p2]) ++ List.replicate (4 - (lg_sl ([.ref (ad (9, 0)), .int p0, .int p1, .int p2])).length) Slot.unset).toArray = ls at hl ⊢
  have hl : lv_has ls 4 [(0, .ref (ad (9, 0))), (1, .int p0), (2, .int p1), (3, .int p2)] := hl
  refine lv_iload_n hx hb dX10_statute_0 rfl (lv_at hl 1 rfl) ?_
  refine vp_callSi (W.runS (As := [.int p0]) (rest := []) ⟨hx, hb, hml, hown, hts⟩ (c_X10_isDay l p0) (va_cwS 1 hts gX10_statute_X10_isDay rfl rfl rfl (by decide +kernel) ⟨Nat.le_of_ble_eq_true rfl, Nat.le_of_ble_eq_true rfl⟩) ⟨fun _ _ _ _ q => q, fun U hU hW => ⟨rfl, trivial⟩⟩ rfl rfl hl.1 rfl (lv_room (Nat.le_of_ble_eq_true rfl)) dX10_statute_1 ⟨Nat.zero_le _, Nat.zero_le _⟩) (fun r hr9 => ?_)
  subst hr9
  refine lv_if_eq (tgt := 16) hx hb dX10_statute_4 (by decide) (fun c1 => ?_) (fun c1 => ?_)
  · replace c1 := bo_f c1
    refine lv_iconst (v := (-1)) hx hb dX10_statute_16 (by decide) ?_
    have E9 : s_X11_statute F M p0 p1 p2 = ((-1), (F, M)) := by unfold s_X11_statute; rw [if_neg c1]
    refine W.widen (k := 1) (n := 3) (Nat.le_of_ble_eq_true rfl) (Nat.le_of_ble_eq_true rfl) ?_
    exact W.iret (v := (-1)) hx hb hr (fun t ht hW => ⟨⟨(-1), (ad, rl, Y), rfl, by rw [E9], by rw [E9]; exact ⟨⟨⟨by rw [ht]; exact hP, va_K.moved hW.alike hK, nst_w hW hN⟩, hD⟩, hrl, rfl⟩⟩, hS.F ht⟩) hS.2.2 dX10_statute_17
  · replace c1 := bo_t c1
    refine lv_iload_n hx hb dX10_statute_7 rfl (lv_at hl 2 rfl) ?_
    refine lv_iconst (v := 0) hx hb dX10_statute_8 (by decide) ?_
    refine lv_iconst (v := 2) hx hb dX10_statute_9 (by decide) ?_
    refine vp_callSi (W.runS (As := [.int p1, .int 0, .int 2]) (rest := []) ⟨hx, hb, hml, hown, hts⟩ (c_X10_isWithin l p1 0 2) (va_cwS 3 hts gX10_statute_X10_isWithin rfl rfl rfl (by decide +kernel) ⟨Nat.le_of_ble_eq_true rfl, Nat.le_of_ble_eq_true rfl⟩) ⟨fun _ _ _ _ q => q, fun U hU hW => ⟨rfl, trivial⟩⟩ rfl rfl hl.1 rfl (lv_room (Nat.le_of_ble_eq_true rfl)) dX10_statute_10 ⟨Nat.zero_le _, Nat.zero_le _⟩) (fun r hr9 => ?_)
    subst hr9
    refine lv_if_ne (tgt := 18) hx hb dX10_statute_13 (by decide) (fun c2 => ?_) (fun c2 => ?_)
    · replace c2 := bo_t c2
      refine lv_aload_n hx hb dX10_statute_18 rfl (lv_at hl 0 rfl) ?_
      refine rg_get (D := (dC, dI)) (r := (9, 0)) (ci := 9) (v := .int (F 21)) (C := RX10) (T := TX10) (N := 19) hx hb hts hin10 hown hK hP ((hrl _).mpr (vd_9 (by decide))) en_9 rfl 7 (by decide) (hts (.fieldLink RX10 158 "SocietyBook" "statuteCount" "I") (by decide +kernel)) (fun _ h9 => h9) rfl dX10_statute_19 ?_
      refine lv_bipush (v := 12) hx hb dX10_statute_22 (by decide) ?_
      refine lv_icmp_lt (tgt := 30) hx hb dX10_statute_24 (by decide) (fun c3 => ?_) (fun c3 => ?_)
      · refine lv_aload_n hx hb dX10_statute_30 rfl (lv_at hl 0 rfl) ?_
        refine rg_get (D := (dC, dI)) (r := (9, 0)) (ci := 9) (v := .ref (ad (12, 0))) (C := RX10) (T := TX10) (N := 19) hx hb hts hin10 hown hK hP ((hrl _).mpr (vd_9 (by decide))) en_9 rfl 6 (by decide) (hts (.fieldLink RX10 23 "SocietyBook" "statutes" "[LSocietyBook$Statute;") (by decide +kernel)) (fun _ h9 => h9) rfl dX10_statute_31 ?_
        refine lv_aload_n hx hb dX10_statute_34 rfl (lv_at hl 0 rfl) ?_
        refine rg_get (D := (dC, dI)) (r := (9, 0)) (ci := 9) (v := .int (F 21)) (C := RX10) (T := TX10) (N := 19) hx hb hts hin10 hown hK hP ((hrl _).mpr (vd_9 (by decide))) en_9 rfl 7 (by decide) (hts (.fieldLink RX10 158 "SocietyBook" "statuteCount" "I") (by decide +kernel)) (fun _ h9 => h9) rfl dX10_statute_35 ?_
        refine rg_new (r := (8, (F 21).toNatClampNeg)) (ci := 8) (fs := [.int 0, .int 0, .int 0]) hx hb hts hin9 tyX9 tyX9_ok hown (hts (.classLink RX10 21 RX9) (by decide +kernel)) (hts (.instantiable RX9 3) (by decide +kernel)) (hts (.initialized RX9) (by decide +kernel)) hK hP hD hS hA rfl (by decide) (Nat.le_of_ble_eq_true rfl) (Nat.le_of_ble_eq_true rfl) dX10_statute_38 (fun q => al_n8 ((hrl _).mp q)) (fun a2 H h2 hP hD hS => ?_)
        have hw := al_w h2 al_n8
        replace hP := al_P h2 hrl al_n8 (Or.inr (Or.inr (Or.inr (Or.inr (Or.inl rfl))))) hP
        refine W.eq (g2 := F0 m 41 ls (.ref (a2 (8, (F 21).toNatClampNeg)) :: .int (F 21) :: .ref (a2 (12, 0)) :: [])) (by rw [hw (12, 0) (vd_12 (by decide))]) ?_
        rw [hw (9, 0) (vd_9 (by decide))] at hl
        replace hP : va_P (dC, dI) vwCl (rx_W (rl ++ [(8, (F 21).toNatClampNeg)]) a2 (ru_ (eC a2 cy F M Y) (8, (F 21).toNatClampNeg) (.inr (8, [.int 0, .int 0, .int 0])))) H := hP
        replace hD : va_D A (rx_W (rl ++ [(8, (F 21).toNatClampNeg)]) a2 (ru_ (eC a2 cy F M Y) (8, (F 21).toNatClampNeg) (.inr (8, [.int 0, .int 0, .int 0])))) := rx_D hD
        refine lv_dup hx hb dX10_statute_41 rfl ?_
        refine lv_iload_n hx hb dX10_statute_42 rfl (lv_at hl 1 rfl) ?_
        refine lv_iload_n hx hb dX10_statute_43 rfl (lv_at hl 2 rfl) ?_
        refine lv_iload_n hx hb dX10_statute_44 rfl (lv_at hl 3 rfl) ?_
        refine va_callv (va_runI (As := [.int p0, .int p1, .int p2]) (rest := [.ref (a2 (8, (F 21).toNatClampNeg)), .int (F 21), .ref (a2 (12, 0))]) ⟨hx, hb, hml, hown, hts⟩ (c_X9_init l dC dI (rl ++ [(8, (F 21).toNatClampNeg)]) a2 cy (ru_ (eC a2 cy F M Y) (8, (F 21).toNatClampNeg) (.inr (8, [.int 0, .int 0, .int 0]))) (8, (F 21).toNatClampNeg) p0 p1 p2 0 0 0 (List.mem_append_right _ (List.mem_singleton.mpr rfl)) ru_s A hD (by rcases hz with h | h <;> rw [h] <;> decide)) (cwI 3 hts gX10_statute_X9_init rfl rfl rfl (hts (.initialized RX9) (by decide +kernel)) (hts (.methodLink RX10 161 yX9_init) (by decide +kernel)) (hts (.instanceMethod yX9_init) (by decide +kernel)) rfl (by decide +kernel) ⟨Nat.le_of_ble_eq_true rfl, Nat.le_of_ble_eq_true rfl⟩) ⟨pc_blind, fun U hU hW => ⟨rfl, by rw [hU]; exact hP, va_K.moved hW.alike hK, nst_w hW hN⟩⟩ rfl rfl hl.1 rfl (lv_room (Nat.le_of_ble_eq_true rfl)) dX10_statute_45 ⟨Nat.le_of_ble_eq_true rfl, Nat.le_of_ble_eq_true rfl⟩) hS (fun q _ h => h) (fun q h => h) (fun u t H1 locs ht hvm hw9 hB hz1 hk1 hS => ?_)
        obtain ⟨⟨hP, -, -⟩, hD⟩ := hB
        rw [ht] at hP
        clear hz1 hk1 ht hvm; generalize H1 = H at hP hS ⊢
        rw [ru_ru] at hP hD
        replace hP : va_P (dC, dI) vwCl (rx_W (rl ++ [(8, (F 21).toNatClampNeg)]) a2 (ru_ (eC a2 cy F M Y) (8, (F 21).toNatClampNeg) (.inr (8, [.int p0, .int p1, .int p2])))) H := hP
        replace hD : va_D A (rx_W (rl ++ [(8, (F 21).toNatClampNeg)]) a2 (ru_ (eC a2 cy F M Y) (8, (F 21).toNatClampNeg) (.inr (8, [.int p0, .int p1, .int p2])))) := hD
        refine rg_astq (r := (12, 0)) (x := (8, (F 21).toNatClampNeg)) hx hb hK hP hD hS (List.mem_append_left _ ((hrl _).mpr (vd_12 (by decide)))) 4 8 (List.mem_append_right _ (List.mem_singleton.mpr rfl)) ((ru_n (by intro q; cases q)).trans en_12) rfl ru_s rfl (ib_ct (iv_21 hI) (fu_f (Int32.not_le.mpr c3)) (by decide)) dX10_statute_48 (fun H locs hP hD hS => ?_)
        replace hP : va_P (dC, dI) vwCl (rx_W (rl ++ [(8, (F 21).toNatClampNeg)]) a2 (ru_ (ru_ (eC a2 cy F M Y) (8, (F 21).toNatClampNeg) (.inr (8, [.int p0, .int p1, .int p2]))) (12, 0) (.inl (cy 4, 12, rf_ (va_up (fun i => if i < (F 21).toNatClampNeg then some (a2 (8, i)) else none) ((F 21).toNatClampNeg) (some (a2 (8, (F 21).toNatClampNeg)))))))) H := hP
        replace hD : va_D A (rx_W (rl ++ [(8, (F 21).toNatClampNeg)]) a2 (ru_ (ru_ (eC a2 cy F M Y) (8, (F 21).toNatClampNeg) (.inr (8, [.int p0, .int p1, .int p2]))) (12, 0) (.inl (cy 4, 12, rf_ (va_up (fun i => if i < (F 21).toNatClampNeg then some (a2 (8, i)) else none) ((F 21).toNatClampNeg) (some (a2 (8, (F 21).toNatClampNeg)))))))) := hD
        refine lv_aload_n hx hb dX10_statute_49 rfl (lv_at hl 0 rfl) ?_
        refine lv_dup hx hb dX10_statute_50 rfl ?_
        refine rg_get (D := (dC, dI)) (r := (9, 0)) (ci := 9) (v := .int (F 21)) (C := RX10) (T := TX10) (N := 19) hx hb hts hin10 hown hK hP (List.mem_append_left _ ((hrl _).mpr (vd_9 (by decide)))) ((ru_n (by intro q; cases q)).trans ((ru_n (by intro q; cases q)).trans en_9)) rfl 7 (by decide) (hts (.fieldLink RX10 158 "SocietyBook" "statuteCount" "I") (by decide +kernel)) (fun _ h9 => h9) rfl dX10_statute_51 ?_
        refine lv_iconst (v := 1) hx hb dX10_statute_54 (by decide) ?_
        refine lv_iadd hx hb dX10_statute_55 ?_
        refine rg_put (D := (dC, dI)) (r := (9, 0)) (ci := 9) (v := .int ((F 21) + 1)) (ty := .int) (C := RX10) (T := TX10) (N := 19) hx hb hts hin10 tyX10 tyX10_ok nmX10 hown hK hP hD hS (List.mem_append_left _ ((hrl _).mpr (vd_9 (by decide)))) ((ru_n (by intro q; cases q)).trans ((ru_n (by intro q; cases q)).trans en_9)) rfl 7 (by decide) (hts (.fieldLink RX10 158 "SocietyBook" "statuteCount" "I") (by decide +kernel)) (fun _ h9 => h9) rfl (by decide +kernel) rfl rfl (Nat.le_of_ble_eq_true rfl) dX10_statute_56 (fun H locs hP hD hS => ?_)
        replace hP : va_P (dC, dI) vwCl (rx_W (rl ++ [(8, (F 21).toNatClampNeg)]) a2 (ru_ (ru_ (ru_ (eC a2 cy F M Y) (8, (F 21).toNatClampNeg) (.inr (8, [.int p0, .int p1, .int p2]))) (12, 0) (.inl (cy 4, 12, rf_ (va_up (fun i => if i < (F 21).toNatClampNeg then some (a2 (8, i)) else none) ((F 21).toNatClampNeg) (some (a2 (8, (F 21).toNatClampNeg))))))) (9, 0) (.inr (9, [.int (F 3), .int (F 4), .ref (a2 (10, 0)), .ref (a2 (11, 0)), .int (F 7), .int (F 16), .ref (a2 (12, 0)), .int ((F 21) + 1), .ref (a2 (13, 0)), .int (F 25), .ref (a2 (14, 0)), .int (F 32), .ref (a2 (16, 0)), .int (F 38), .ref (a2 (2, 0)), .ref (a2 (17, 0)), .int (F 2), .int (F 0), .ref (a2 (18, 0))])))) H := hP
        replace hD : va_D A (rx_W (rl ++ [(8, (F 21).toNatClampNeg)]) a2 (ru_ (ru_ (ru_ (eC a2 cy F M Y) (8, (F 21).toNatClampNeg) (.inr (8, [.int p0, .int p1, .int p2]))) (12, 0) (.inl (cy 4, 12, rf_ (va_up (fun i => if i < (F 21).toNatClampNeg then some (a2 (8, i)) else none) ((F 21).toNatClampNeg) (some (a2 (8, (F 21).toNatClampNeg))))))) (9, 0) (.inr (9, [.int (F 3), .int (F 4), .ref (a2 (10, 0)), .ref (a2 (11, 0)), .int (F 7), .int (F 16), .ref (a2 (12, 0)), .int ((F 21) + 1), .ref (a2 (13, 0)), .int (F 25), .ref (a2 (14, 0)), .int (F 32), .ref (a2 (16, 0)), .int (F 38), .ref (a2 (2, 0)), .ref (a2 (17, 0)), .int (F 2), .int (F 0), .ref (a2 (18, 0))])))) := hD
        refine lv_aload_n hx hb dX10_statute_59 rfl (lv_at hl 0 rfl) ?_
        refine rg_get (D := (dC, dI)) (r := (9, 0)) (ci := 9) (v := .int ((F 21) + 1)) (C := RX10) (T := TX10) (N := 19) hx hb hts hin10 hown hK hP (List.mem_append_left _ ((hrl _).mpr (vd_9 (by decide)))) ru_s rfl 7 (by decide) (hts (.fieldLink RX10 158 "SocietyBook" "statuteCount" "I") (by decide +kernel)) (fun _ h9 => h9) rfl dX10_statute_60 ?_
        refine lv_iconst (v := 1) hx hb dX10_statute_63 (by decide) ?_
        refine lv_isub hx hb dX10_statute_64 ?_
        have E9 : s_X11_statute F M p0 p1 p2 = (((F 21) + 1) - 1, (va_up F 21 ((F 21) + 1), va_up (va_up (va_up M 22 (upd (M 22) ((F 21).toNatClampNeg) p0)) 23 (upd (M 23) ((F 21).toNatClampNeg) p1)) 24 (upd (M 24) ((F 21).toNatClampNeg) (vp_nar .boolean p2)))) := by unfold s_X11_statute; rw [if_pos c1]; rw [if_pos c2]; rw [if_neg (fu_f (Int32.not_le.mpr c3))]; skip
        have hv9 := al_v8 hrl (ib_ct (iv_21 hI) (fu_f (Int32.not_le.mpr c3)) (by decide))
        replace hP : va_P (dC, dI) vwCl (rx_W (rl ++ [(8, (F 21).toNatClampNeg)]) a2 (eC a2 cy (va_up F 21 ((F 21) + 1)) (va_up (va_up (va_up M 22 (upd (M 22) ((F 21).toNatClampNeg) p0)) 23 (upd (M 23) ((F 21).toNatClampNeg) p1)) 24 (upd (M 24) ((F 21).toNatClampNeg) (vp_nar .boolean p2))) Y)) H := by rw [← rx_cong (fun r hr => al_e8 a2 cy F M Y p0 p1 p2 (ib_ct (iv_21 hI) (fu_f (Int32.not_le.mpr c3)) (by decide)) (by rcases hz with h | h <;> rw [h] <;> decide) r ((hv9 r).mp hr))]; exact hP
        replace hD : va_D A (rx_W (rl ++ [(8, (F 21).toNatClampNeg)]) a2 (eC a2 cy (va_up F 21 ((F 21) + 1)) (va_up (va_up (va_up M 22 (upd (M 22) ((F 21).toNatClampNeg) p0)) 23 (upd (M 23) ((F 21).toNatClampNeg) p1)) 24 (upd (M 24) ((F 21).toNatClampNeg) (vp_nar .boolean p2))) Y)) := rx_D hD
        exact W.iret (v := ((F 21) + 1) - 1) hx hb hr (fun t ht hW => ⟨⟨((F 21) + 1) - 1, (a2, rl ++ [(8, (F 21).toNatClampNeg)], Y), rfl, by rw [E9], by rw [E9]; exact ⟨⟨⟨by rw [ht]; exact hP, va_K.moved hW.alike hK, nst_w hW hN⟩, hD⟩, hv9, (hw _ (vd_9 (by decide))).symm⟩⟩, hS.F ht⟩) hS.2.2 dX10_statute_65
      · refine lv_bipush (v := (-2)) hx hb dX10_statute_27 (by decide) ?_
        have E9 : s_X11_statute F M p0 p1 p2 = ((-2), (F, M)) := by unfold s_X11_statute; rw [if_pos c1]; rw [if_pos c2]; rw [if_pos (fu_t (iv_21 hI) (Int32.not_lt.mp c3))]
        refine W.widen (k := 1) (n := 3) (Nat.le_of_ble_eq_true rfl) (Nat.le_of_ble_eq_true rfl) ?_
        exact W.iret (v := (-2)) hx hb hr (fun t ht hW => ⟨⟨(-2), (ad, rl, Y), rfl, by rw [E9], by rw [E9]; exact ⟨⟨⟨by rw [ht]; exact hP, va_K.moved hW.alike hK, nst_w hW hN⟩, hD⟩, hrl, rfl⟩⟩, hS.F ht⟩) hS.2.2 dX10_statute_29
    · replace c2 := bo_f c2
      refine lv_iconst (v := (-1)) hx hb dX10_statute_16 (by decide) ?_
      have E9 : s_X11_statute F M p0 p1 p2 = ((-1), (F, M)) := by unfold s_X11_statute; rw [if_pos c1]; rw [if_neg c2]
      refine W.widen (k := 1) (n := 3) (Nat.le_of_ble_eq_true rfl) (Nat.le_of_ble_eq_true rfl) ?_
      exact W.iret (v := (-1)) hx hb hr (fun t ht hW => ⟨⟨(-1), (ad, rl, Y), rfl, by rw [E9], by rw [E9]; exact ⟨⟨⟨by rw [ht]; exact hP, va_K.moved hW.alike hK, nst_w hW hN⟩, hD⟩, hrl, rfl⟩⟩, hS.F ht⟩) hS.2.2 dX10_statute_17

theorem al_n0 {F : Nat → Int32} : ¬ vd F (0, (F 25).toNatClampNeg) := by
  intro h
  simp [vd] at h
theorem al_v0 {F : Nat → Int32} {rl : List (Nat × Nat)} (hrl : ∀ r, r ∈ rl ↔ vd F r) (hn : vp_in (F 25) 12) : ∀ r, r ∈ rl ++ [(0, (F 25).toNatClampNeg)] ↔ vd (va_up F 25 (F 25 + 1)) r := by
  have hcl := cl_s hn (by decide)
  rintro ⟨c, i⟩
  rw [List.mem_append, hrl, List.mem_singleton]
  by_cases h : c = 0
  · subst h
    simp [vd, va_up, hcl]
    omega
  · simp [vd, va_up, h]
theorem al_e0 (ad : Nat × Nat → Nat) (cy : Nat → ClassId) (F : Nat → Int32) (M Y : Nat → Nat → Int32) (p0 : Int32) (p1 : Int32) (p2 : Int32) (p3 : Int32) (p4 : Int32) (p5 : Int32) (hn : vp_in (F 25) 12)  (r : Nat × Nat) (hr : vd (va_up F 25 (F 25 + 1)) r) :
    ru_ (ru_ (ru_ (eC ad cy F M Y) (0, (F 25).toNatClampNeg) (.inr (0, [.int p0, .int p1, .int p2, .int p3, .int p4, .int p5]))) (13, 0) (.inl (cy 5, 12, rf_ (va_up (fun i => if i < (F 25).toNatClampNeg then some (ad (0, i)) else none) (F 25).toNatClampNeg (some (ad (0, (F 25).toNatClampNeg))))))) (9, 0) (.inr (9, [.int (F 3), .int (F 4), .ref (ad (10, 0)), .ref (ad (11, 0)), .int (F 7), .int (F 16), .ref (ad (12, 0)), .int (F 21), .ref (ad (13, 0)), .int (F 25 + 1), .ref (ad (14, 0)), .int (F 32), .ref (ad (16, 0)), .int (F 38), .ref (ad (2, 0)), .ref (ad (17, 0)), .int (F 2), .int (F 0), .ref (ad (18, 0))])) r
    = eC ad cy (va_up F 25 ((F 25) + 1)) (va_up (va_up (va_up (va_up (va_up (va_up M 26 (upd (M 26) ((F 25).toNatClampNeg) p0)) 27 (upd (M 27) ((F 25).toNatClampNeg) p1)) 28 (upd (M 28) ((F 25).toNatClampNeg) p2)) 29 (upd (M 29) ((F 25).toNatClampNeg) p3)) 30 (upd (M 30) ((F 25).toNatClampNeg) p4)) 31 (upd (M 31) ((F 25).toNatClampNeg) p5)) Y r := by
  have hcl := cl_s hn (by decide)
  obtain ⟨c, i⟩ := r
  by_cases q9 : (c, i) = (9, 0)
  · rw [q9, ru_s]; rfl
  · rw [ru_n q9]
    by_cases qa : (c, i) = (13, 0)
    · rw [qa, ru_s, en_13]
      refine congrArg (fun z => Sum.inl (cy 5, 12, rf_ z)) (funext fun x => ?_)
      show va_up _ (F 25).toNatClampNeg _ x = if x < (F 25 + 1).toNatClampNeg then some (ad (0, x)) else none
      rw [hcl]
      unfold va_up
      by_cases e : x = (F 25).toNatClampNeg
      · rw [if_pos e, if_pos (by omega), e]
      · rw [if_neg e]
        show (if x < (F 25).toNatClampNeg then some (ad (0, x)) else none) = _
        by_cases e2 : x < (F 25).toNatClampNeg
        · rw [if_pos e2, if_pos (by omega)]
        · rw [if_neg e2, if_neg (by omega)]
    · rw [ru_n qa]
      by_cases qo : (c, i) = (0, (F 25).toNatClampNeg)
      · rw [qo, ru_s, en_0]
        simp [va_up, upd]
      · rw [ru_n qo]
        by_cases co : c = 0
        · subst co
          have hne : ¬ i = (F 25).toNatClampNeg := fun q => qo (by rw [q])
          rw [en_0, en_0]
          simp [va_up, upd, hne]
        · have ca : ¬ c = 13 := by
            intro q; subst q
            have hi : i < 1 := by simp [vd] at hr; omega
            exact qa (by rw [show i = 0 by omega])
          have c9 : ¬ c = 9 := by
            intro q; subst q
            have hi : i < 1 := by simp [vd] at hr; omega
            exact q9 (by rw [show i = 0 by omega])
          simp [eC, va_up, co, ca, c9]

set_option maxHeartbeats 4000000 in
set_option maxRecDepth 100000 in
theorem c_X10_byelaw (l : Launch) (dC : Nat → ClassId) (dI : Nat → Nat → Nat) (rl : List (Nat × Nat)) (ad : Nat × Nat → Nat) (cy : Nat → ClassId) (F : Nat → Int32) (M Y : Nat → Nat → Int32) (p0 : Int32) (p1 : Int32) (p2 : Int32) (p3 : Int32) (p4 : Int32) (p5 : Int32) (hrl : ∀ r, r ∈ rl ↔ vd F r) (hI : iv F M) (hJ : jv F M) (A : Nat → Prop) (hD : va_D A (rx_W rl ad (eC ad cy F M Y))) : Met l yX10_byelaw wsX10_byelaw ({ frames := 3, cells := 1, slots := 6, locals := 59 } : Room) (va_Pc [.ref (ad (9, 0)), .int p0, .int p1, .int p2, .int p3, .int p4, .int p5] (pA A dC dI rl ad cy (eC ad cy F M Y))) (va_Qi (fun r (_ : (Nat × Nat → Nat) × List (Nat × Nat) × (Nat → Nat → Int32)) => r = (s_X11_byelaw F M p0 p1 p2 p3 p4 p5).1) (qA A dC dI (ad (9, 0)) cy (s_X11_byelaw F M p0 p1 p2 p3 p4 p5).2.1 (s_X11_byelaw F M p0 p1 p2 p3 p4 p5).2.2) A) 1 6 A := by
  refine Met.ofW (cc := cX10_byelaw) (maxL := 7) (ret := (some .int)) (by decide) rfl ?_
  intro p e s m args below meth c s₁ B hml hv
  obtain ⟨rfl, hA, hP, hK, hN⟩ := hv
  have hx := B.exec
  have hb := B.bytes
  have hr := B.returns
  have hts := atoms_spec (ws := wsX10_byelaw) B.pre
  have hown : s.vm.findClass RX10 = some m.cls := findClass_of_methodNamed B.named
  have hlocks := B.notSynchronized
  have hin0 : ∀ w ∈ wsX00, w ∈ wsX10_byelaw := by decide +kernel
  have hin10 : ∀ w ∈ wsX100, w ∈ wsX10_byelaw := by decide +kernel
  have hS : va_S A s.heap s.heap [] := va_S.rf
  have hl := lv_entry ([.ref (ad (9, 0)), .int p0, .int p1, .int p2, .int p3, .int p4, .int p5]) (n := 7) (Nat.le_of_ble_eq_true rfl)
  rw [lg_entry_eq]
  generalize (lg_sl ([.ref (ad (9, 0)), .int p0, .int p1, .int p2, .int p3, .int p4, .int p5]) ++ List.replicate (7 - (lg_sl ([.ref (ad (9, 0)), .int p0, .int p1, .int p2, .int p3, .int p4, .int p5])).length) Slot.unset).toArray = ls at hl ⊢
  have hl : lv_has ls 7 [(0, .ref (ad (9, 0))), (1, .int p0), (2, .int p1), (3, .int p2), (4, .int p3), (5, .int p4), (6, .int p5)] := hl
  refine lv_iload_n hx hb dX10_byelaw_0 rfl (lv_at hl 1 rfl) ?_
  refine vp_callSi (W.runS (As := [.int p0]) (rest := []) ⟨hx, hb, hml, hown, hts⟩ (c_X10_isDay l p0) (va_cwS 1 hts gX10_byelaw_X10_isDay rfl rfl rfl (by decide +kernel) ⟨Nat.le_of_ble_eq_true rfl, Nat.le_of_ble_eq_true rfl⟩) ⟨fun _ _ _ _ q => q, fun U hU hW => ⟨rfl, trivial⟩⟩ rfl rfl hl.1 rfl (lv_room (Nat.le_of_ble_eq_true rfl)) dX10_byelaw_1 ⟨Nat.zero_le _, Nat.zero_le _⟩) (fun r hr9 => ?_)
  subst hr9
  refine lv_if_eq (tgt := 28) hx hb dX10_byelaw_4 (by decide) (fun c1 => ?_) (fun c1 => ?_)
  · replace c1 := bo_f c1
    refine lv_iconst (v := (-1)) hx hb dX10_byelaw_28 (by decide) ?_
    have E9 : s_X11_byelaw F M p0 p1 p2 p3 p4 p5 = ((-1), (F, M)) := by unfold s_X11_byelaw; rw [if_neg c1]
    refine W.widen (k := 1) (n := 6) (Nat.le_of_ble_eq_true rfl) (Nat.le_of_ble_eq_true rfl) ?_
    exact W.iret (v := (-1)) hx hb hr (fun t ht hW => ⟨⟨(-1), (ad, rl, Y), rfl, by rw [E9], by rw [E9]; exact ⟨⟨⟨by rw [ht]; exact hP, va_K.moved hW.alike hK, nst_w hW hN⟩, hD⟩, hrl, rfl⟩⟩, hS.F ht⟩) hS.2.2 dX10_byelaw_29
  · replace c1 := bo_t c1
    refine lv_iload_n hx hb dX10_byelaw_7 rfl (lv_at hl 2 rfl) ?_
    refine lv_iconst (v := 0) hx hb dX10_byelaw_8 (by decide) ?_
    refine lv_sipush (v := 500) hx hb dX10_byelaw_9 (by decide) ?_
    refine vp_callSi (W.runS (As := [.int p1, .int 0, .int 500]) (rest := []) ⟨hx, hb, hml, hown, hts⟩ (c_X10_isWithin l p1 0 500) (va_cwS 3 hts gX10_byelaw_X10_isWithin rfl rfl rfl (by decide +kernel) ⟨Nat.le_of_ble_eq_true rfl, Nat.le_of_ble_eq_true rfl⟩) ⟨fun _ _ _ _ q => q, fun U hU hW => ⟨rfl, trivial⟩⟩ rfl rfl hl.1 rfl (lv_room (Nat.le_of_ble_eq_true rfl)) dX10_byelaw_12 ⟨Nat.zero_le _, Nat.zero_le _⟩) (fun r hr9 => ?_)
    subst hr9
    refine lv_if_eq (tgt := 28) hx hb dX10_byelaw_15 (by decide) (fun c2 => ?_) (fun c2 => ?_)
    · replace c2 := bo_f c2
      refine lv_iconst (v := (-1)) hx hb dX10_byelaw_28 (by decide) ?_
      have E9 : s_X11_byelaw F M p0 p1 p2 p3 p4 p5 = ((-1), (F, M)) := by unfold s_X11_byelaw; rw [if_pos c1]; rw [if_neg c2]
      refine W.widen (k := 1) (n := 6) (Nat.le_of_ble_eq_true rfl) (Nat.le_of_ble_eq_true rfl) ?_
      exact W.iret (v := (-1)) hx hb hr (fun t ht hW => ⟨⟨(-1), (ad, rl, Y), rfl, by rw [E9], by rw [E9]; exact ⟨⟨⟨by rw [ht]; exact hP, va_K.moved hW.alike hK, nst_w hW hN⟩, hD⟩, hrl, rfl⟩⟩, hS.F ht⟩) hS.2.2 dX10_byelaw_29
    · replace c2 := bo_t c2
      refine lv_iload_n hx hb dX10_byelaw_18 rfl (lv_at hl 3 rfl) ?_
      refine lv_iconst (v := 0) hx hb dX10_byelaw_19 (by decide) ?_
      refine lv_bipush (v := 16) hx hb dX10_byelaw_20 (by decide) ?_
      refine vp_callSi (W.runS (As := [.int p2, .int 0, .int 16]) (rest := []) ⟨hx, hb, hml, hown, hts⟩ (c_X10_isWithin l p2 0 16) (va_cwS 3 hts gX10_byelaw_X10_isWithin rfl rfl rfl (by decide +kernel) ⟨Nat.le_of_ble_eq_true rfl, Nat.le_of_ble_eq_true rfl⟩) ⟨fun _ _ _ _ q => q, fun U hU hW => ⟨rfl, trivial⟩⟩ rfl rfl hl.1 rfl (lv_room (Nat.le_of_ble_eq_true rfl)) dX10_byelaw_22 ⟨Nat.zero_le _, Nat.zero_le _⟩) (fun r hr9 => ?_)
      subst hr9
      refine lv_if_ne (tgt := 30) hx hb dX10_byelaw_25 (by decide) (fun c3 => ?_) (fun c3 => ?_)
      · replace c3 := bo_t c3
        refine lv_iload hx hb dX10_byelaw_30 (lv_at hl 4 rfl) ?_
        refine lv_iconst (v := 0) hx hb dX10_byelaw_32 (by decide) ?_
        refine lv_bipush (v := 100) hx hb dX10_byelaw_33 (by decide) ?_
        refine vp_callSi (W.runS (As := [.int p3, .int 0, .int 100]) (rest := []) ⟨hx, hb, hml, hown, hts⟩ (c_X10_isWithin l p3 0 100) (va_cwS 3 hts gX10_byelaw_X10_isWithin rfl rfl rfl (by decide +kernel) ⟨Nat.le_of_ble_eq_true rfl, Nat.le_of_ble_eq_true rfl⟩) ⟨fun _ _ _ _ q => q, fun U hU hW => ⟨rfl, trivial⟩⟩ rfl rfl hl.1 rfl (lv_room (Nat.le_of_ble_eq_true rfl)) dX10_byelaw_35 ⟨Nat.zero_le _, Nat.zero_le _⟩) (fun r hr9 => ?_)
        subst hr9
        refine lv_if_eq (tgt := 63) hx hb dX10_byelaw_38 (by decide) (fun c4 => ?_) (fun c4 => ?_)
        · replace c4 := bo_f c4
          refine lv_iconst (v := (-1)) hx hb dX10_byelaw_63 (by decide) ?_
          have E9 : s_X11_byelaw F M p0 p1 p2 p3 p4 p5 = ((-1), (F, M)) := by unfold s_X11_byelaw; rw [if_pos c1]; rw [if_pos c2]; rw [if_pos c3]; rw [if_neg c4]
          refine W.widen (k := 1) (n := 6) (Nat.le_of_ble_eq_true rfl) (Nat.le_of_ble_eq_true rfl) ?_
          exact W.iret (v := (-1)) hx hb hr (fun t ht hW => ⟨⟨(-1), (ad, rl, Y), rfl, by rw [E9], by rw [E9]; exact ⟨⟨⟨by rw [ht]; exact hP, va_K.moved hW.alike hK, nst_w hW hN⟩, hD⟩, hrl, rfl⟩⟩, hS.F ht⟩) hS.2.2 dX10_byelaw_64
        · replace c4 := bo_t c4
          refine lv_iload hx hb dX10_byelaw_41 (lv_at hl 6 rfl) ?_
          refine lv_iconst (v := 1) hx hb dX10_byelaw_43 (by decide) ?_
          refine lv_bipush (v := 100) hx hb dX10_byelaw_44 (by decide) ?_
          refine vp_callSi (W.runS (As := [.int p5, .int 1, .int 100]) (rest := []) ⟨hx, hb, hml, hown, hts⟩ (c_X10_isWithin l p5 1 100) (va_cwS 3 hts gX10_byelaw_X10_isWithin rfl rfl rfl (by decide +kernel) ⟨Nat.le_of_ble_eq_true rfl, Nat.le_of_ble_eq_true rfl⟩) ⟨fun _ _ _ _ q => q, fun U hU hW => ⟨rfl, trivial⟩⟩ rfl rfl hl.1 rfl (lv_room (Nat.le_of_ble_eq_true rfl)) dX10_byelaw_46 ⟨Nat.zero_le _, Nat.zero_le _⟩) (fun r hr9 => ?_)
          subst hr9
          refine lv_if_eq (tgt := 63) hx hb dX10_byelaw_49 (by decide) (fun c5 => ?_) (fun c5 => ?_)
          · replace c5 := bo_f c5
            refine lv_iconst (v := (-1)) hx hb dX10_byelaw_63 (by decide) ?_
            have E9 : s_X11_byelaw F M p0 p1 p2 p3 p4 p5 = ((-1), (F, M)) := by unfold s_X11_byelaw; rw [if_pos c1]; rw [if_pos c2]; rw [if_pos c3]; rw [if_pos c4]; rw [if_neg c5]
            refine W.widen (k := 1) (n := 6) (Nat.le_of_ble_eq_true rfl) (Nat.le_of_ble_eq_true rfl) ?_
            exact W.iret (v := (-1)) hx hb hr (fun t ht hW => ⟨⟨(-1), (ad, rl, Y), rfl, by rw [E9], by rw [E9]; exact ⟨⟨⟨by rw [ht]; exact hP, va_K.moved hW.alike hK, nst_w hW hN⟩, hD⟩, hrl, rfl⟩⟩, hS.F ht⟩) hS.2.2 dX10_byelaw_64
          · replace c5 := bo_t c5
            refine lv_iload hx hb dX10_byelaw_52 (lv_at hl 5 rfl) ?_
            refine lv_iconst (v := 0) hx hb dX10_byelaw_54 (by decide) ?_
            refine lv_iload hx hb dX10_byelaw_55 (lv_at hl 6 rfl) ?_
            refine vp_callSi (W.runS (As := [.int p4, .int 0, .int p5]) (rest := []) ⟨hx, hb, hml, hown, hts⟩ (c_X10_isWithin l p4 0 p5) (va_cwS 3 hts gX10_byelaw_X10_isWithin rfl rfl rfl (by decide +kernel) ⟨Nat.le_of_ble_eq_true rfl, Nat.le_of_ble_eq_true rfl⟩) ⟨fun _ _ _ _ q => q, fun U hU hW => ⟨rfl, trivial⟩⟩ rfl rfl hl.1 rfl (lv_room (Nat.le_of_ble_eq_true rfl)) dX10_byelaw_57 ⟨Nat.zero_le _, Nat.zero_le _⟩) (fun r hr9 => ?_)
            subst hr9
            refine lv_if_ne (tgt := 65) hx hb dX10_byelaw_60 (by decide) (fun c6 => ?_) (fun c6 => ?_)
            · replace c6 := bo_t c6
              refine lv_aload_n hx hb dX10_byelaw_65 rfl (lv_at hl 0 rfl) ?_
              refine rg_get (D := (dC, dI)) (r := (9, 0)) (ci := 9) (v := .int (F 25)) (C := RX10) (T := TX10) (N := 19) hx hb hts hin10 hown hK hP ((hrl _).mpr (vd_9 (by decide))) en_9 rfl 9 (by decide) (hts (.fieldLink RX10 179 "SocietyBook" "byelawCount" "I") (by decide +kernel)) (fun _ h9 => h9) rfl dX10_byelaw_66 ?_
              refine lv_bipush (v := 12) hx hb dX10_byelaw_69 (by decide) ?_
              refine lv_icmp_lt (tgt := 77) hx hb dX10_byelaw_71 (by decide) (fun c7 => ?_) (fun c7 => ?_)
              · refine lv_aload_n hx hb dX10_byelaw_77 rfl (lv_at hl 0 rfl) ?_
                refine rg_get (D := (dC, dI)) (r := (9, 0)) (ci := 9) (v := .ref (ad (13, 0))) (C := RX10) (T := TX10) (N := 19) hx hb hts hin10 hown hK hP ((hrl _).mpr (vd_9 (by decide))) en_9 rfl 8 (by decide) (hts (.fieldLink RX10 29 "SocietyBook" "byelaws" "[LSocietyBook$Byelaw;") (by decide +kernel)) (fun _ h9 => h9) rfl dX10_byelaw_78 ?_
                refine lv_aload_n hx hb dX10_byelaw_81 rfl (lv_at hl 0 rfl) ?_
                refine rg_get (D := (dC, dI)) (r := (9, 0)) (ci := 9) (v := .int (F 25)) (C := RX10) (T := TX10) (N := 19) hx hb hts hin10 hown hK hP ((hrl _).mpr (vd_9 (by decide))) en_9 rfl 9 (by decide) (hts (.fieldLink RX10 179 "SocietyBook" "byelawCount" "I") (by decide +kernel)) (fun _ h9 => h9) rfl dX10_byelaw_82 ?_
                refine rg_new (r := (0, (F 25).toNatClampNeg)) (ci := 0) (fs := [.int 0, .int 0, .int 0, .int 0, .int 0, .int 0]) hx hb hts hin0 tyX0 tyX0_ok hown (hts (.classLink RX10 27 RX0) (by decide +kernel)) (hts (.instantiable RX0 6) (by decide +kernel)) (hts (.initialized RX0) (by decide +kernel)) hK hP hD hS hA rfl (by decide) (Nat.le_of_ble_eq_true rfl) (Nat.le_of_ble_eq_true rfl) dX10_byelaw_85 (fun q => al_n0 ((hrl _).mp q)) (fun a2 H h2 hP hD hS => ?_)
                have hw := al_w h2 al_n0
                replace hP := al_P h2 hrl al_n0 (Or.inl rfl) hP
                refine W.eq (g2 := F0 m 88 ls (.ref (a2 (0, (F 25).toNatClampNeg)) :: .int (F 25) :: .ref (a2 (13, 0)) :: [])) (by rw [hw (13, 0) (vd_13 (by decide))]) ?_
                rw [hw (9, 0) (vd_9 (by decide))] at hl
                replace hP : va_P (dC, dI) vwCl (rx_W (rl ++ [(0, (F 25).toNatClampNeg)]) a2 (ru_ (eC a2 cy F M Y) (0, (F 25).toNatClampNeg) (.inr (0, [.int 0, .int 0, .int 0, .int 0, .int 0, .int 0])))) H := hP
                replace hD : va_D A (rx_W (rl ++ [(0, (F 25).toNatClampNeg)]) a2 (ru_ (eC a2 cy F M Y) (0, (F 25).toNatClampNeg) (.inr (0, [.int 0, .int 0, .int 0, .int 0, .int 0, .int 0])))) := rx_D hD
                refine lv_dup hx hb dX10_byelaw_88 rfl ?_
                refine lv_iload_n hx hb dX10_byelaw_89 rfl (lv_at hl 1 rfl) ?_
                refine lv_iload_n hx hb dX10_byelaw_90 rfl (lv_at hl 2 rfl) ?_
                refine lv_iload_n hx hb dX10_byelaw_91 rfl (lv_at hl 3 rfl) ?_
                refine lv_iload hx hb dX10_byelaw_92 (lv_at hl 4 rfl) ?_
                refine lv_iload hx hb dX10_byelaw_94 (lv_at hl 5 rfl) ?_
                refine lv_iload hx hb dX10_byelaw_96 (lv_at hl 6 rfl) ?_
                refine va_callv (va_runI (As := [.int p0, .int p1, .int p2, .int p3, .int p4, .int p5]) (rest := [.ref (a2 (0, (F 25).toNatClampNeg)), .int (F 25), .ref (a2 (13, 0))]) ⟨hx, hb, hml, hown, hts⟩ (c_X0_init l dC dI (rl ++ [(0, (F 25).toNatClampNeg)]) a2 cy (ru_ (eC a2 cy F M Y) (0, (F 25).toNatClampNeg) (.inr (0, [.int 0, .int 0, .int 0, .int 0, .int 0, .int 0]))) (0, (F 25).toNatClampNeg) p0 p1 p2 p3 p4 p5 0 0 0 0 0 0 (List.mem_append_right _ (List.mem_singleton.mpr rfl)) ru_s A hD ) (cwI 6 hts gX10_byelaw_X0_init rfl rfl rfl (hts (.initialized RX0) (by decide +kernel)) (hts (.methodLink RX10 182 yX0_init) (by decide +kernel)) (hts (.instanceMethod yX0_init) (by decide +kernel)) rfl (by decide +kernel) ⟨Nat.le_of_ble_eq_true rfl, Nat.le_of_ble_eq_true rfl⟩) ⟨pc_blind, fun U hU hW => ⟨rfl, by rw [hU]; exact hP, va_K.moved hW.alike hK, nst_w hW hN⟩⟩ rfl rfl hl.1 rfl (lv_room (Nat.le_of_ble_eq_true rfl)) dX10_byelaw_98 ⟨Nat.le_of_ble_eq_true rfl, Nat.le_of_ble_eq_true rfl⟩) hS (fun q _ h => h) (fun q h => h) (fun u t H1 locs ht hvm hw9 hB hz1 hk1 hS => ?_)
                obtain ⟨⟨hP, -, -⟩, hD⟩ := hB
                rw [ht] at hP
                clear hz1 hk1 ht hvm; generalize H1 = H at hP hS ⊢
                rw [ru_ru] at hP hD
                replace hP : va_P (dC, dI) vwCl (rx_W (rl ++ [(0, (F 25).toNatClampNeg)]) a2 (ru_ (eC a2 cy F M Y) (0, (F 25).toNatClampNeg) (.inr (0, [.int p0, .int p1, .int p2, .int p3, .int p4, .int p5])))) H := hP
                replace hD : va_D A (rx_W (rl ++ [(0, (F 25).toNatClampNeg)]) a2 (ru_ (eC a2 cy F M Y) (0, (F 25).toNatClampNeg) (.inr (0, [.int p0, .int p1, .int p2, .int p3, .int p4, .int p5])))) := hD
                refine rg_astq (r := (13, 0)) (x := (0, (F 25).toNatClampNeg)) hx hb hK hP hD hS (List.mem_append_left _ ((hrl _).mpr (vd_13 (by decide)))) 5 0 (List.mem_append_right _ (List.mem_singleton.mpr rfl)) ((ru_n (by intro q; cases q)).trans en_13) rfl ru_s rfl (ib_ct (iv_25 hI) (fu_f (Int32.not_le.mpr c7)) (by decide)) dX10_byelaw_101 (fun H locs hP hD hS => ?_)
                replace hP : va_P (dC, dI) vwCl (rx_W (rl ++ [(0, (F 25).toNatClampNeg)]) a2 (ru_ (ru_ (eC a2 cy F M Y) (0, (F 25).toNatClampNeg) (.inr (0, [.int p0, .int p1, .int p2, .int p3, .int p4, .int p5]))) (13, 0) (.inl (cy 5, 12, rf_ (va_up (fun i => if i < (F 25).toNatClampNeg then some (a2 (0, i)) else none) ((F 25).toNatClampNeg) (some (a2 (0, (F 25).toNatClampNeg)))))))) H := hP
                replace hD : va_D A (rx_W (rl ++ [(0, (F 25).toNatClampNeg)]) a2 (ru_ (ru_ (eC a2 cy F M Y) (0, (F 25).toNatClampNeg) (.inr (0, [.int p0, .int p1, .int p2, .int p3, .int p4, .int p5]))) (13, 0) (.inl (cy 5, 12, rf_ (va_up (fun i => if i < (F 25).toNatClampNeg then some (a2 (0, i)) else none) ((F 25).toNatClampNeg) (some (a2 (0, (F 25).toNatClampNeg)))))))) := hD
                refine lv_aload_n hx hb dX10_byelaw_102 rfl (lv_at hl 0 rfl) ?_
                refine lv_dup hx hb dX10_byelaw_103 rfl ?_
                refine rg_get (D := (dC, dI)) (r := (9, 0)) (ci := 9) (v := .int (F 25)) (C := RX10) (T := TX10) (N := 19) hx hb hts hin10 hown hK hP (List.mem_append_left _ ((hrl _).mpr (vd_9 (by decide)))) ((ru_n (by intro q; cases q)).trans ((ru_n (by intro q; cases q)).trans en_9)) rfl 9 (by decide) (hts (.fieldLink RX10 179 "SocietyBook" "byelawCount" "I") (by decide +kernel)) (fun _ h9 => h9) rfl dX10_byelaw_104 ?_
                refine lv_iconst (v := 1) hx hb dX10_byelaw_107 (by decide) ?_
                refine lv_iadd hx hb dX10_byelaw_108 ?_
                refine rg_put (D := (dC, dI)) (r := (9, 0)) (ci := 9) (v := .int ((F 25) + 1)) (ty := .int) (C := RX10) (T := TX10) (N := 19) hx hb hts hin10 tyX10 tyX10_ok nmX10 hown hK hP hD hS (List.mem_append_left _ ((hrl _).mpr (vd_9 (by decide)))) ((ru_n (by intro q; cases q)).trans ((ru_n (by intro q; cases q)).trans en_9)) rfl 9 (by decide) (hts (.fieldLink RX10 179 "SocietyBook" "byelawCount" "I") (by decide +kernel)) (fun _ h9 => h9) rfl (by decide +kernel) rfl rfl (Nat.le_of_ble_eq_true rfl) dX10_byelaw_109 (fun H locs hP hD hS => ?_)
                replace hP : va_P (dC, dI) vwCl (rx_W (rl ++ [(0, (F 25).toNatClampNeg)]) a2 (ru_ (ru_ (ru_ (eC a2 cy F M Y) (0, (F 25).toNatClampNeg) (.inr (0, [.int p0, .int p1, .int p2, .int p3, .int p4, .int p5]))) (13, 0) (.inl (cy 5, 12, rf_ (va_up (fun i => if i < (F 25).toNatClampNeg then some (a2 (0, i)) else none) ((F 25).toNatClampNeg) (some (a2 (0, (F 25).toNatClampNeg))))))) (9, 0) (.inr (9, [.int (F 3), .int (F 4), .ref (a2 (10, 0)), .ref (a2 (11, 0)), .int (F 7), .int (F 16), .ref (a2 (12, 0)), .int (F 21), .ref (a2 (13, 0)), .int ((F 25) + 1), .ref (a2 (14, 0)), .int (F 32), .ref (a2 (16, 0)), .int (F 38), .ref (a2 (2, 0)), .ref (a2 (17, 0)), .int (F 2), .int (F 0), .ref (a2 (18, 0))])))) H := hP
                replace hD : va_D A (rx_W (rl ++ [(0, (F 25).toNatClampNeg)]) a2 (ru_ (ru_ (ru_ (eC a2 cy F M Y) (0, (F 25).toNatClampNeg) (.inr (0, [.int p0, .int p1, .int p2, .int p3, .int p4, .int p5]))) (13, 0) (.inl (cy 5, 12, rf_ (va_up (fun i => if i < (F 25).toNatClampNeg then some (a2 (0, i)) else none) ((F 25).toNatClampNeg) (some (a2 (0, (F 25).toNatClampNeg))))))) (9, 0) (.inr (9, [.int (F 3), .int (F 4), .ref (a2 (10, 0)), .ref (a2 (11, 0)), .int (F 7), .int (F 16), .ref (a2 (12, 0)), .int (F 21), .ref (a2 (13, 0)), .int ((F 25) + 1), .ref (a2 (14, 0)), .int (F 32), .ref (a2 (16, 0)), .int (F 38), .ref (a2 (2, 0)), .ref (a2 (17, 0)), .int (F 2), .int (F 0), .ref (a2 (18, 0))])))) := hD
                refine lv_aload_n hx hb dX10_byelaw_112 rfl (lv_at hl 0 rfl) ?_
                refine rg_get (D := (dC, dI)) (r := (9, 0)) (ci := 9) (v := .int ((F 25) + 1)) (C := RX10) (T := TX10) (N := 19) hx hb hts hin10 hown hK hP (List.mem_append_left _ ((hrl _).mpr (vd_9 (by decide)))) ru_s rfl 9 (by decide) (hts (.fieldLink RX10 179 "SocietyBook" "byelawCount" "I") (by decide +kernel)) (fun _ h9 => h9) rfl dX10_byelaw_113 ?_
                refine lv_iconst (v := 1) hx hb dX10_byelaw_116 (by decide) ?_
                refine lv_isub hx hb dX10_byelaw_117 ?_
                have E9 : s_X11_byelaw F M p0 p1 p2 p3 p4 p5 = (((F 25) + 1) - 1, (va_up F 25 ((F 25) + 1), va_up (va_up (va_up (va_up (va_up (va_up M 26 (upd (M 26) ((F 25).toNatClampNeg) p0)) 27 (upd (M 27) ((F 25).toNatClampNeg) p1)) 28 (upd (M 28) ((F 25).toNatClampNeg) p2)) 29 (upd (M 29) ((F 25).toNatClampNeg) p3)) 30 (upd (M 30) ((F 25).toNatClampNeg) p4)) 31 (upd (M 31) ((F 25).toNatClampNeg) p5))) := by unfold s_X11_byelaw; rw [if_pos c1]; rw [if_pos c2]; rw [if_pos c3]; rw [if_pos c4]; rw [if_pos c5]; rw [if_pos c6]; rw [if_neg (fu_f (Int32.not_le.mpr c7))]; skip
                have hv9 := al_v0 hrl (ib_ct (iv_25 hI) (fu_f (Int32.not_le.mpr c7)) (by decide))
                replace hP : va_P (dC, dI) vwCl (rx_W (rl ++ [(0, (F 25).toNatClampNeg)]) a2 (eC a2 cy (va_up F 25 ((F 25) + 1)) (va_up (va_up (va_up (va_up (va_up (va_up M 26 (upd (M 26) ((F 25).toNatClampNeg) p0)) 27 (upd (M 27) ((F 25).toNatClampNeg) p1)) 28 (upd (M 28) ((F 25).toNatClampNeg) p2)) 29 (upd (M 29) ((F 25).toNatClampNeg) p3)) 30 (upd (M 30) ((F 25).toNatClampNeg) p4)) 31 (upd (M 31) ((F 25).toNatClampNeg) p5)) Y)) H := by rw [← rx_cong (fun r hr => al_e0 a2 cy F M Y p0 p1 p2 p3 p4 p5 (ib_ct (iv_25 hI) (fu_f (Int32.not_le.mpr c7)) (by decide))  r ((hv9 r).mp hr))]; exact hP
                replace hD : va_D A (rx_W (rl ++ [(0, (F 25).toNatClampNeg)]) a2 (eC a2 cy (va_up F 25 ((F 25) + 1)) (va_up (va_up (va_up (va_up (va_up (va_up M 26 (upd (M 26) ((F 25).toNatClampNeg) p0)) 27 (upd (M 27) ((F 25).toNatClampNeg) p1)) 28 (upd (M 28) ((F 25).toNatClampNeg) p2)) 29 (upd (M 29) ((F 25).toNatClampNeg) p3)) 30 (upd (M 30) ((F 25).toNatClampNeg) p4)) 31 (upd (M 31) ((F 25).toNatClampNeg) p5)) Y)) := rx_D hD
                exact W.iret (v := ((F 25) + 1) - 1) hx hb hr (fun t ht hW => ⟨⟨((F 25) + 1) - 1, (a2, rl ++ [(0, (F 25).toNatClampNeg)], Y), rfl, by rw [E9], by rw [E9]; exact ⟨⟨⟨by rw [ht]; exact hP, va_K.moved hW.alike hK, nst_w hW hN⟩, hD⟩, hv9, (hw _ (vd_9 (by decide))).symm⟩⟩, hS.F ht⟩) hS.2.2 dX10_byelaw_118
              · refine lv_bipush (v := (-2)) hx hb dX10_byelaw_74 (by decide) ?_
                have E9 : s_X11_byelaw F M p0 p1 p2 p3 p4 p5 = ((-2), (F, M)) := by unfold s_X11_byelaw; rw [if_pos c1]; rw [if_pos c2]; rw [if_pos c3]; rw [if_pos c4]; rw [if_pos c5]; rw [if_pos c6]; rw [if_pos (fu_t (iv_25 hI) (Int32.not_lt.mp c7))]
                refine W.widen (k := 1) (n := 6) (Nat.le_of_ble_eq_true rfl) (Nat.le_of_ble_eq_true rfl) ?_
                exact W.iret (v := (-2)) hx hb hr (fun t ht hW => ⟨⟨(-2), (ad, rl, Y), rfl, by rw [E9], by rw [E9]; exact ⟨⟨⟨by rw [ht]; exact hP, va_K.moved hW.alike hK, nst_w hW hN⟩, hD⟩, hrl, rfl⟩⟩, hS.F ht⟩) hS.2.2 dX10_byelaw_76
            · replace c6 := bo_f c6
              refine lv_iconst (v := (-1)) hx hb dX10_byelaw_63 (by decide) ?_
              have E9 : s_X11_byelaw F M p0 p1 p2 p3 p4 p5 = ((-1), (F, M)) := by unfold s_X11_byelaw; rw [if_pos c1]; rw [if_pos c2]; rw [if_pos c3]; rw [if_pos c4]; rw [if_pos c5]; rw [if_neg c6]
              refine W.widen (k := 1) (n := 6) (Nat.le_of_ble_eq_true rfl) (Nat.le_of_ble_eq_true rfl) ?_
              exact W.iret (v := (-1)) hx hb hr (fun t ht hW => ⟨⟨(-1), (ad, rl, Y), rfl, by rw [E9], by rw [E9]; exact ⟨⟨⟨by rw [ht]; exact hP, va_K.moved hW.alike hK, nst_w hW hN⟩, hD⟩, hrl, rfl⟩⟩, hS.F ht⟩) hS.2.2 dX10_byelaw_64
      · replace c3 := bo_f c3
        refine lv_iconst (v := (-1)) hx hb dX10_byelaw_28 (by decide) ?_
        have E9 : s_X11_byelaw F M p0 p1 p2 p3 p4 p5 = ((-1), (F, M)) := by unfold s_X11_byelaw; rw [if_pos c1]; rw [if_pos c2]; rw [if_neg c3]
        refine W.widen (k := 1) (n := 6) (Nat.le_of_ble_eq_true rfl) (Nat.le_of_ble_eq_true rfl) ?_
        exact W.iret (v := (-1)) hx hb hr (fun t ht hW => ⟨⟨(-1), (ad, rl, Y), rfl, by rw [E9], by rw [E9]; exact ⟨⟨⟨by rw [ht]; exact hP, va_K.moved hW.alike hK, nst_w hW hN⟩, hD⟩, hrl, rfl⟩⟩, hS.F ht⟩) hS.2.2 dX10_byelaw_29

theorem al_n1 {F : Nat → Int32} : ¬ vd F (1, (F 32).toNatClampNeg) := by
  intro h
  simp [vd] at h
theorem al_v1 {F : Nat → Int32} {rl : List (Nat × Nat)} (hrl : ∀ r, r ∈ rl ↔ vd F r) (hn : vp_in (F 32) 20) : ∀ r, r ∈ rl ++ [(1, (F 32).toNatClampNeg)] ↔ vd (va_up F 32 (F 32 + 1)) r := by
  have hcl := cl_s hn (by decide)
  rintro ⟨c, i⟩
  rw [List.mem_append, hrl, List.mem_singleton]
  by_cases h : c = 1
  · subst h
    simp [vd, va_up, hcl]
    omega
  · simp [vd, va_up, h]
theorem al_e1 (ad : Nat × Nat → Nat) (cy : Nat → ClassId) (F : Nat → Int32) (M Y : Nat → Nat → Int32) (p0 : Int32) (hn : vp_in (F 32) 20) (hz : vp_nar .boolean 0 = 0) (r : Nat × Nat) (hr : vd (va_up F 32 (F 32 + 1)) r) :
    ru_ (ru_ (ru_ (eC ad cy F M Y) (1, (F 32).toNatClampNeg) (.inr (1, [.int p0, .int (F 3), .int 0]))) (14, 0) (.inl (cy 6, 20, rf_ (va_up (fun i => if i < (F 32).toNatClampNeg then some (ad (1, i)) else none) (F 32).toNatClampNeg (some (ad (1, (F 32).toNatClampNeg))))))) (9, 0) (.inr (9, [.int (F 3), .int (F 4), .ref (ad (10, 0)), .ref (ad (11, 0)), .int (F 7), .int (F 16), .ref (ad (12, 0)), .int (F 21), .ref (ad (13, 0)), .int (F 25), .ref (ad (14, 0)), .int (F 32 + 1), .ref (ad (16, 0)), .int (F 38), .ref (ad (2, 0)), .ref (ad (17, 0)), .int (F 2), .int (F 0), .ref (ad (18, 0))])) r
    = eC ad cy (va_up F 32 ((F 32) + 1)) (va_up (va_up (va_up M 33 (upd (M 33) ((F 32).toNatClampNeg) (F 3))) 34 (upd (M 34) ((F 32).toNatClampNeg) p0)) 35 (upd (M 35) ((F 32).toNatClampNeg) (vp_nar .boolean 0))) Y r := by
  have hcl := cl_s hn (by decide)
  obtain ⟨c, i⟩ := r
  by_cases q9 : (c, i) = (9, 0)
  · rw [q9, ru_s]; rfl
  · rw [ru_n q9]
    by_cases qa : (c, i) = (14, 0)
    · rw [qa, ru_s, en_14]
      refine congrArg (fun z => Sum.inl (cy 6, 20, rf_ z)) (funext fun x => ?_)
      show va_up _ (F 32).toNatClampNeg _ x = if x < (F 32 + 1).toNatClampNeg then some (ad (1, x)) else none
      rw [hcl]
      unfold va_up
      by_cases e : x = (F 32).toNatClampNeg
      · rw [if_pos e, if_pos (by omega), e]
      · rw [if_neg e]
        show (if x < (F 32).toNatClampNeg then some (ad (1, x)) else none) = _
        by_cases e2 : x < (F 32).toNatClampNeg
        · rw [if_pos e2, if_pos (by omega)]
        · rw [if_neg e2, if_neg (by omega)]
    · rw [ru_n qa]
      by_cases qo : (c, i) = (1, (F 32).toNatClampNeg)
      · rw [qo, ru_s, en_1]
        simp [va_up, upd, hz]
      · rw [ru_n qo]
        by_cases co : c = 1
        · subst co
          have hne : ¬ i = (F 32).toNatClampNeg := fun q => qo (by rw [q])
          rw [en_1, en_1]
          simp [va_up, upd, hne]
        · have ca : ¬ c = 14 := by
            intro q; subst q
            have hi : i < 1 := by simp [vd] at hr; omega
            exact qa (by rw [show i = 0 by omega])
          have c9 : ¬ c = 9 := by
            intro q; subst q
            have hi : i < 1 := by simp [vd] at hr; omega
            exact q9 (by rw [show i = 0 by omega])
          simp [eC, va_up, co, ca, c9]

set_option maxHeartbeats 4000000 in
set_option maxRecDepth 100000 in
theorem c_X10_candidate (l : Launch) (dC : Nat → ClassId) (dI : Nat → Nat → Nat) (rl : List (Nat × Nat)) (ad : Nat × Nat → Nat) (cy : Nat → ClassId) (F : Nat → Int32) (M Y : Nat → Nat → Int32) (p0 : Int32) (hrl : ∀ r, r ∈ rl ↔ vd F r) (hI : iv F M) (hJ : jv F M) (A : Nat → Prop) (hD : va_D A (rx_W rl ad (eC ad cy F M Y))) : Met l yX10_candidate wsX10_candidate ({ frames := 2, cells := 1, slots := 3, locals := 34 } : Room) (va_Pc [.ref (ad (9, 0)), .int p0] (pA A dC dI rl ad cy (eC ad cy F M Y))) (va_Qi (fun r (_ : (Nat × Nat → Nat) × List (Nat × Nat) × (Nat → Nat → Int32)) => r = (s_X11_candidate F M p0).1) (qA A dC dI (ad (9, 0)) cy (s_X11_candidate F M p0).2.1 (s_X11_candidate F M p0).2.2) A) 1 3 A := by
  refine Met.ofW (cc := cX10_candidate) (maxL := 2) (ret := (some .int)) (by decide) rfl ?_
  intro p e s m args below meth c s₁ B hml hv
  obtain ⟨rfl, hA, hP, hK, hN⟩ := hv
  have hx := B.exec
  have hb := B.bytes
  have hr := B.returns
  have hts := atoms_spec (ws := wsX10_candidate) B.pre
  have hown : s.vm.findClass RX10 = some m.cls := findClass_of_methodNamed B.named
  have hlocks := B.notSynchronized
  have hin1 : ∀ w ∈ wsX10, w ∈ wsX10_candidate := by decide +kernel
  have hin10 : ∀ w ∈ wsX100, w ∈ wsX10_candidate := by decide +kernel
  have hS : va_S A s.heap s.heap [] := va_S.rf
  have hl := lv_entry ([.ref (ad (9, 0)), .int p0]) (n := 2) (Nat.le_of_ble_eq_true rfl)
  rw [lg_entry_eq]
  generalize (lg_sl ([.ref (ad (9, 0)), .int p0]) ++ List.replicate (2 - (lg_sl ([.ref (ad (9, 0)), .int p0])).length) Slot.unset).toArray = ls at hl ⊢
  have hl : lv_has ls 2 [(0, .ref (ad (9, 0))), (1, .int p0)] := hl
  refine lv_iload_n hx hb dX10_candidate_0 rfl (lv_at hl 1 rfl) ?_
  refine lv_iconst (v := 0) hx hb dX10_candidate_1 (by decide) ?_
  refine lv_iconst (v := 1) hx hb dX10_candidate_2 (by decide) ?_
  refine lv_aload_n hx hb dX10_candidate_3 rfl (lv_at hl 0 rfl) ?_
  refine rg_get (D := (dC, dI)) (r := (9, 0)) (ci := 9) (v := .int (F 4)) (C := RX10) (T := TX10) (N := 19) hx hb hts hin10 hown hK hP ((hrl _).mpr (vd_9 (by decide))) en_9 rfl 1 (by decide) (hts (.fieldLink RX10 73 "SocietyBook" "fellows" "I") (by decide +kernel)) (fun _ h9 => h9) rfl dX10_candidate_4 ?_
  refine lv_ishl hx hb dX10_candidate_7 ?_
  refine lv_iconst (v := 1) hx hb dX10_candidate_8 (by decide) ?_
  refine lv_isub hx hb dX10_candidate_9 ?_
  refine vp_callSi (W.runS (As := [.int p0, .int 0, .int ((1 <<< ((F 4) &&& 31)) - 1)]) (rest := []) ⟨hx, hb, hml, hown, hts⟩ (c_X10_isWithin l p0 0 ((1 <<< ((F 4) &&& 31)) - 1)) (va_cwS 3 hts gX10_candidate_X10_isWithin rfl rfl rfl (by decide +kernel) ⟨Nat.le_of_ble_eq_true rfl, Nat.le_of_ble_eq_true rfl⟩) ⟨fun _ _ _ _ q => q, fun U hU hW => ⟨rfl, trivial⟩⟩ rfl rfl hl.1 rfl (lv_room (Nat.le_of_ble_eq_true rfl)) dX10_candidate_10 ⟨Nat.zero_le _, Nat.zero_le _⟩) (fun r hr9 => ?_)
  subst hr9
  refine lv_if_ne (tgt := 18) hx hb dX10_candidate_13 (by decide) (fun c1 => ?_) (fun c1 => ?_)
  · replace c1 := bo_t c1
    refine lv_aload_n hx hb dX10_candidate_18 rfl (lv_at hl 0 rfl) ?_
    refine rg_get (D := (dC, dI)) (r := (9, 0)) (ci := 9) (v := .int (F 32)) (C := RX10) (T := TX10) (N := 19) hx hb hts hin10 hown hK hP ((hrl _).mpr (vd_9 (by decide))) en_9 rfl 11 (by decide) (hts (.fieldLink RX10 185 "SocietyBook" "candidateCount" "I") (by decide +kernel)) (fun _ h9 => h9) rfl dX10_candidate_19 ?_
    refine lv_bipush (v := 20) hx hb dX10_candidate_22 (by decide) ?_
    refine lv_icmp_lt (tgt := 30) hx hb dX10_candidate_24 (by decide) (fun c2 => ?_) (fun c2 => ?_)
    · refine lv_aload_n hx hb dX10_candidate_30 rfl (lv_at hl 0 rfl) ?_
      refine rg_get (D := (dC, dI)) (r := (9, 0)) (ci := 9) (v := .ref (ad (14, 0))) (C := RX10) (T := TX10) (N := 19) hx hb hts hin10 hown hK hP ((hrl _).mpr (vd_9 (by decide))) en_9 rfl 10 (by decide) (hts (.fieldLink RX10 35 "SocietyBook" "candidates" "[LSocietyBook$Candidate;") (by decide +kernel)) (fun _ h9 => h9) rfl dX10_candidate_31 ?_
      refine lv_aload_n hx hb dX10_candidate_34 rfl (lv_at hl 0 rfl) ?_
      refine rg_get (D := (dC, dI)) (r := (9, 0)) (ci := 9) (v := .int (F 32)) (C := RX10) (T := TX10) (N := 19) hx hb hts hin10 hown hK hP ((hrl _).mpr (vd_9 (by decide))) en_9 rfl 11 (by decide) (hts (.fieldLink RX10 185 "SocietyBook" "candidateCount" "I") (by decide +kernel)) (fun _ h9 => h9) rfl dX10_candidate_35 ?_
      refine rg_new (r := (1, (F 32).toNatClampNeg)) (ci := 1) (fs := [.int 0, .int 0, .int 0]) hx hb hts hin1 tyX1 tyX1_ok hown (hts (.classLink RX10 33 RX1) (by decide +kernel)) (hts (.instantiable RX1 3) (by decide +kernel)) (hts (.initialized RX1) (by decide +kernel)) hK hP hD hS hA rfl (by decide) (Nat.le_of_ble_eq_true rfl) (Nat.le_of_ble_eq_true rfl) dX10_candidate_38 (fun q => al_n1 ((hrl _).mp q)) (fun a2 H h2 hP hD hS => ?_)
      have hw := al_w h2 al_n1
      replace hP := al_P h2 hrl al_n1 (Or.inr (Or.inl rfl)) hP
      refine W.eq (g2 := F0 m 41 ls (.ref (a2 (1, (F 32).toNatClampNeg)) :: .int (F 32) :: .ref (a2 (14, 0)) :: [])) (by rw [hw (14, 0) (vd_14 (by decide))]) ?_
      rw [hw (9, 0) (vd_9 (by decide))] at hl
      replace hP : va_P (dC, dI) vwCl (rx_W (rl ++ [(1, (F 32).toNatClampNeg)]) a2 (ru_ (eC a2 cy F M Y) (1, (F 32).toNatClampNeg) (.inr (1, [.int 0, .int 0, .int 0])))) H := hP
      replace hD : va_D A (rx_W (rl ++ [(1, (F 32).toNatClampNeg)]) a2 (ru_ (eC a2 cy F M Y) (1, (F 32).toNatClampNeg) (.inr (1, [.int 0, .int 0, .int 0])))) := rx_D hD
      refine lv_dup hx hb dX10_candidate_41 rfl ?_
      refine lv_iload_n hx hb dX10_candidate_42 rfl (lv_at hl 1 rfl) ?_
      refine lv_aload_n hx hb dX10_candidate_43 rfl (lv_at hl 0 rfl) ?_
      refine rg_get (D := (dC, dI)) (r := (9, 0)) (ci := 9) (v := .int (F 3)) (C := RX10) (T := TX10) (N := 19) hx hb hts hin10 hown hK hP (List.mem_append_left _ ((hrl _).mpr (vd_9 (by decide)))) ((ru_n (by intro q; cases q)).trans en_9) rfl 0 (by decide) (hts (.fieldLink RX10 65 "SocietyBook" "today" "I") (by decide +kernel)) (fun _ h9 => h9) rfl dX10_candidate_44 ?_
      refine va_callv (va_runI (As := [.int p0, .int (F 3)]) (rest := [.ref (a2 (1, (F 32).toNatClampNeg)), .int (F 32), .ref (a2 (14, 0))]) ⟨hx, hb, hml, hown, hts⟩ (c_X1_init l dC dI (rl ++ [(1, (F 32).toNatClampNeg)]) a2 cy (ru_ (eC a2 cy F M Y) (1, (F 32).toNatClampNeg) (.inr (1, [.int 0, .int 0, .int 0]))) (1, (F 32).toNatClampNeg) p0 (F 3) 0 0 0 (List.mem_append_right _ (List.mem_singleton.mpr rfl)) ru_s A hD ) (cwI 2 hts gX10_candidate_X1_init rfl rfl rfl (hts (.initialized RX1) (by decide +kernel)) (hts (.methodLink RX10 188 yX1_init) (by decide +kernel)) (hts (.instanceMethod yX1_init) (by decide +kernel)) rfl (by decide +kernel) ⟨Nat.le_of_ble_eq_true rfl, Nat.le_of_ble_eq_true rfl⟩) ⟨pc_blind, fun U hU hW => ⟨rfl, by rw [hU]; exact hP, va_K.moved hW.alike hK, nst_w hW hN⟩⟩ rfl rfl hl.1 rfl (lv_room (Nat.le_of_ble_eq_true rfl)) dX10_candidate_47 ⟨Nat.le_of_ble_eq_true rfl, Nat.le_of_ble_eq_true rfl⟩) hS (fun q _ h => h) (fun q h => h) (fun u t H1 locs ht hvm hw9 hB hz1 hk1 hS => ?_)
      obtain ⟨⟨hP, -, -⟩, hD⟩ := hB
      rw [ht] at hP
      clear hz1 hk1 ht hvm; generalize H1 = H at hP hS ⊢
      rw [ru_ru] at hP hD
      replace hP : va_P (dC, dI) vwCl (rx_W (rl ++ [(1, (F 32).toNatClampNeg)]) a2 (ru_ (eC a2 cy F M Y) (1, (F 32).toNatClampNeg) (.inr (1, [.int p0, .int (F 3), .int 0])))) H := hP
      replace hD : va_D A (rx_W (rl ++ [(1, (F 32).toNatClampNeg)]) a2 (ru_ (eC a2 cy F M Y) (1, (F 32).toNatClampNeg) (.inr (1, [.int p0, .int (F 3), .int 0])))) := hD
      refine rg_astq (r := (14, 0)) (x := (1, (F 32).toNatClampNeg)) hx hb hK hP hD hS (List.mem_append_left _ ((hrl _).mpr (vd_14 (by decide)))) 6 1 (List.mem_append_right _ (List.mem_singleton.mpr rfl)) ((ru_n (by intro q; cases q)).trans en_14) rfl ru_s rfl (ib_ct (iv_32 hI) (fu_f (Int32.not_le.mpr c2)) (by decide)) dX10_candidate_50 (fun H locs hP hD hS => ?_)
      replace hP : va_P (dC, dI) vwCl (rx_W (rl ++ [(1, (F 32).toNatClampNeg)]) a2 (ru_ (ru_ (eC a2 cy F M Y) (1, (F 32).toNatClampNeg) (.inr (1, [.int p0, .int (F 3), .int 0]))) (14, 0) (.inl (cy 6, 20, rf_ (va_up (fun i => if i < (F 32).toNatClampNeg then some (a2 (1, i)) else none) ((F 32).toNatClampNeg) (some (a2 (1, (F 32).toNatClampNeg)))))))) H := hP
      replace hD : va_D A (rx_W (rl ++ [(1, (F 32).toNatClampNeg)]) a2 (ru_ (ru_ (eC a2 cy F M Y) (1, (F 32).toNatClampNeg) (.inr (1, [.int p0, .int (F 3), .int 0]))) (14, 0) (.inl (cy 6, 20, rf_ (va_up (fun i => if i < (F 32).toNatClampNeg then some (a2 (1, i)) else none) ((F 32).toNatClampNeg) (some (a2 (1, (F 32).toNatClampNeg)))))))) := hD
      refine lv_aload_n hx hb dX10_candidate_51 rfl (lv_at hl 0 rfl) ?_
      refine lv_dup hx hb dX10_candidate_52 rfl ?_
      refine rg_get (D := (dC, dI)) (r := (9, 0)) (ci := 9) (v := .int (F 32)) (C := RX10) (T := TX10) (N := 19) hx hb hts hin10 hown hK hP (List.mem_append_left _ ((hrl _).mpr (vd_9 (by decide)))) ((ru_n (by intro q; cases q)).trans ((ru_n (by intro q; cases q)).trans en_9)) rfl 11 (by decide) (hts (.fieldLink RX10 185 "SocietyBook" "candidateCount" "I") (by decide +kernel)) (fun _ h9 => h9) rfl dX10_candidate_53 ?_
      refine lv_iconst (v := 1) hx hb dX10_candidate_56 (by decide) ?_
      refine lv_iadd hx hb dX10_candidate_57 ?_
      refine rg_put (D := (dC, dI)) (r := (9, 0)) (ci := 9) (v := .int ((F 32) + 1)) (ty := .int) (C := RX10) (T := TX10) (N := 19) hx hb hts hin10 tyX10 tyX10_ok nmX10 hown hK hP hD hS (List.mem_append_left _ ((hrl _).mpr (vd_9 (by decide)))) ((ru_n (by intro q; cases q)).trans ((ru_n (by intro q; cases q)).trans en_9)) rfl 11 (by decide) (hts (.fieldLink RX10 185 "SocietyBook" "candidateCount" "I") (by decide +kernel)) (fun _ h9 => h9) rfl (by decide +kernel) rfl rfl (Nat.le_of_ble_eq_true rfl) dX10_candidate_58 (fun H locs hP hD hS => ?_)
      replace hP : va_P (dC, dI) vwCl (rx_W (rl ++ [(1, (F 32).toNatClampNeg)]) a2 (ru_ (ru_ (ru_ (eC a2 cy F M Y) (1, (F 32).toNatClampNeg) (.inr (1, [.int p0, .int (F 3), .int 0]))) (14, 0) (.inl (cy 6, 20, rf_ (va_up (fun i => if i < (F 32).toNatClampNeg then some (a2 (1, i)) else none) ((F 32).toNatClampNeg) (some (a2 (1, (F 32).toNatClampNeg))))))) (9, 0) (.inr (9, [.int (F 3), .int (F 4), .ref (a2 (10, 0)), .ref (a2 (11, 0)), .int (F 7), .int (F 16), .ref (a2 (12, 0)), .int (F 21), .ref (a2 (13, 0)), .int (F 25), .ref (a2 (14, 0)), .int ((F 32) + 1), .ref (a2 (16, 0)), .int (F 38), .ref (a2 (2, 0)), .ref (a2 (17, 0)), .int (F 2), .int (F 0), .ref (a2 (18, 0))])))) H := hP
      replace hD : va_D A (rx_W (rl ++ [(1, (F 32).toNatClampNeg)]) a2 (ru_ (ru_ (ru_ (eC a2 cy F M Y) (1, (F 32).toNatClampNeg) (.inr (1, [.int p0, .int (F 3), .int 0]))) (14, 0) (.inl (cy 6, 20, rf_ (va_up (fun i => if i < (F 32).toNatClampNeg then some (a2 (1, i)) else none) ((F 32).toNatClampNeg) (some (a2 (1, (F 32).toNatClampNeg))))))) (9, 0) (.inr (9, [.int (F 3), .int (F 4), .ref (a2 (10, 0)), .ref (a2 (11, 0)), .int (F 7), .int (F 16), .ref (a2 (12, 0)), .int (F 21), .ref (a2 (13, 0)), .int (F 25), .ref (a2 (14, 0)), .int ((F 32) + 1), .ref (a2 (16, 0)), .int (F 38), .ref (a2 (2, 0)), .ref (a2 (17, 0)), .int (F 2), .int (F 0), .ref (a2 (18, 0))])))) := hD
      refine lv_aload_n hx hb dX10_candidate_61 rfl (lv_at hl 0 rfl) ?_
      refine rg_get (D := (dC, dI)) (r := (9, 0)) (ci := 9) (v := .int ((F 32) + 1)) (C := RX10) (T := TX10) (N := 19) hx hb hts hin10 hown hK hP (List.mem_append_left _ ((hrl _).mpr (vd_9 (by decide)))) ru_s rfl 11 (by decide) (hts (.fieldLink RX10 185 "SocietyBook" "candidateCount" "I") (by decide +kernel)) (fun _ h9 => h9) rfl dX10_candidate_62 ?_
      refine lv_iconst (v := 1) hx hb dX10_candidate_65 (by decide) ?_
      refine lv_isub hx hb dX10_candidate_66 ?_
      have E9 : s_X11_candidate F M p0 = (((F 32) + 1) - 1, (va_up F 32 ((F 32) + 1), va_up (va_up (va_up M 33 (upd (M 33) ((F 32).toNatClampNeg) (F 3))) 34 (upd (M 34) ((F 32).toNatClampNeg) p0)) 35 (upd (M 35) ((F 32).toNatClampNeg) (vp_nar .boolean 0)))) := by unfold s_X11_candidate; rw [if_pos c1]; rw [if_neg (fu_f (Int32.not_le.mpr c2))]; skip
      have hv9 := al_v1 hrl (ib_ct (iv_32 hI) (fu_f (Int32.not_le.mpr c2)) (by decide))
      replace hP : va_P (dC, dI) vwCl (rx_W (rl ++ [(1, (F 32).toNatClampNeg)]) a2 (eC a2 cy (va_up F 32 ((F 32) + 1)) (va_up (va_up (va_up M 33 (upd (M 33) ((F 32).toNatClampNeg) (F 3))) 34 (upd (M 34) ((F 32).toNatClampNeg) p0)) 35 (upd (M 35) ((F 32).toNatClampNeg) (vp_nar .boolean 0))) Y)) H := by rw [← rx_cong (fun r hr => al_e1 a2 cy F M Y p0 (ib_ct (iv_32 hI) (fu_f (Int32.not_le.mpr c2)) (by decide)) (by decide) r ((hv9 r).mp hr))]; exact hP
      replace hD : va_D A (rx_W (rl ++ [(1, (F 32).toNatClampNeg)]) a2 (eC a2 cy (va_up F 32 ((F 32) + 1)) (va_up (va_up (va_up M 33 (upd (M 33) ((F 32).toNatClampNeg) (F 3))) 34 (upd (M 34) ((F 32).toNatClampNeg) p0)) 35 (upd (M 35) ((F 32).toNatClampNeg) (vp_nar .boolean 0))) Y)) := rx_D hD
      exact W.iret (v := ((F 32) + 1) - 1) hx hb hr (fun t ht hW => ⟨⟨((F 32) + 1) - 1, (a2, rl ++ [(1, (F 32).toNatClampNeg)], Y), rfl, by rw [E9], by rw [E9]; exact ⟨⟨⟨by rw [ht]; exact hP, va_K.moved hW.alike hK, nst_w hW hN⟩, hD⟩, hv9, (hw _ (vd_9 (by decide))).symm⟩⟩, hS.F ht⟩) hS.2.2 dX10_candidate_67
    · refine lv_bipush (v := (-2)) hx hb dX10_candidate_27 (by decide) ?_
      have E9 : s_X11_candidate F M p0 = ((-2), (F, M)) := by unfold s_X11_candidate; rw [if_pos c1]; rw [if_pos (fu_t (iv_32 hI) (Int32.not_lt.mp c2))]
      refine W.widen (k := 1) (n := 3) (Nat.le_of_ble_eq_true rfl) (Nat.le_of_ble_eq_true rfl) ?_
      exact W.iret (v := (-2)) hx hb hr (fun t ht hW => ⟨⟨(-2), (ad, rl, Y), rfl, by rw [E9], by rw [E9]; exact ⟨⟨⟨by rw [ht]; exact hP, va_K.moved hW.alike hK, nst_w hW hN⟩, hD⟩, hrl, rfl⟩⟩, hS.F ht⟩) hS.2.2 dX10_candidate_29
  · replace c1 := bo_f c1
    refine lv_iconst (v := (-1)) hx hb dX10_candidate_16 (by decide) ?_
    have E9 : s_X11_candidate F M p0 = ((-1), (F, M)) := by unfold s_X11_candidate; rw [if_neg c1]
    refine W.widen (k := 1) (n := 3) (Nat.le_of_ble_eq_true rfl) (Nat.le_of_ble_eq_true rfl) ?_
    exact W.iret (v := (-1)) hx hb hr (fun t ht hW => ⟨⟨(-1), (ad, rl, Y), rfl, by rw [E9], by rw [E9]; exact ⟨⟨⟨by rw [ht]; exact hP, va_K.moved hW.alike hK, nst_w hW hN⟩, hD⟩, hrl, rfl⟩⟩, hS.F ht⟩) hS.2.2 dX10_candidate_17
