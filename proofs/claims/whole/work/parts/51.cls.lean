
theorem al_P2 {D : va_G} {cl : List vw_C} {rl : List (Nat × Nat)} {H : Heap} {ad a2 : Nat × Nat → Nat} {cy : Nat → ClassId} {F : Nat → Int32} {M Y : Nat → Nat → Int32} {r r2 : Nat × Nat} {e e2 : va_E} (h2 : ∀ x, ¬ x = r2 → a2 x = ad x) (hrl : ∀ r, r ∈ rl ↔ vd F r) (hr : ¬ vd F r2) (hk : r2.1 = 0 ∨ r2.1 = 1 ∨ r2.1 = 4 ∨ r2.1 = 5 ∨ r2.1 = 8 ∨ r2.1 = 15) (hP : va_P D cl (rx_W ((rl ++ [r]) ++ [r2]) a2 (ru_ (ru_ (eC ad cy F M Y) r e) r2 e2)) H) : va_P D cl (rx_W ((rl ++ [r]) ++ [r2]) a2 (ru_ (ru_ (eC a2 cy F M Y) r e) r2 e2)) H := by
  rw [← rx_cong (fun x hx => ?_)]
  · exact hP
  · by_cases q : x = r2
    · rw [q, ru_s, ru_s]
    · rw [ru_n q, ru_n q]
      by_cases q2 : x = r
      · rw [q2, ru_s, ru_s]
      · rw [ru_n q2, ru_n q2]
        rcases List.mem_append.mp hx with h | h
        · rcases List.mem_append.mp h with h | h
          · exact eC_ad h2 hr hk x ((hrl x).mp h)
          · exact absurd (List.mem_singleton.mp h) q2
        · exact absurd (List.mem_singleton.mp h) q
theorem al_n5 {F : Nat → Int32} : ¬ vd F (5, (F 7).toNatClampNeg) := by
  intro h
  simp [vd] at h
theorem al_n15 {F : Nat → Int32} : ¬ vd F (15, (F 7).toNatClampNeg) := by
  intro h
  simp [vd] at h
theorem al_v5 {F : Nat → Int32} {rl : List (Nat × Nat)} (hrl : ∀ r, r ∈ rl ↔ vd F r) (hn : vp_in (F 7) 24) : ∀ r, r ∈ (rl ++ [(5, (F 7).toNatClampNeg)]) ++ [(15, (F 7).toNatClampNeg)] ↔ vd (va_up F 7 (F 7 + 1)) r := by
  have hcl := cl_s hn (by decide)
  rintro ⟨c, i⟩
  rw [List.mem_append, List.mem_append, hrl, List.mem_singleton, List.mem_singleton]
  by_cases h : c = 5
  · subst h
    simp [vd, va_up, hcl]
    omega
  · by_cases h2 : c = 15
    · subst h2
      simp [vd, va_up, hcl]
      omega
    · simp [vd, va_up, h, h2]
theorem lt_no (A B : Nat → Int32) (p w : Int32) : ∀ n, (∀ k, k < n → ¬ A k = p) → lt_N A B p w n = none := by
  intro n
  induction n with
  | zero => intro _; rfl
  | succ n ih =>
    intro h
    rw [lt_N, if_neg (fun z => h n (Nat.lt_succ_self n) z.1)]
    exact ih (fun k hk => h k (by omega))
theorem al_e5 (ad : Nat × Nat → Nat) (cy : Nat → ClassId) (F : Nat → Int32) (M Y : Nat → Nat → Int32) (p0 p1 p2 v2 v3 v4 s5 s6 : Int32) (hJ : jv F M) (hn : vp_in (F 7) 24) (h5 : (if p0 = 2 then v3 else -9) = s5) (h6 : (if p0 = 2 then v4 else -9) = s6) (r : Nat × Nat) (hr : vd (va_up F 7 (F 7 + 1)) r) :
    ru_ (ru_ (ru_ (ru_ (eC ad cy F M Y) (5, (F 7).toNatClampNeg) (.inr (5, [.int p0, .int p1, .int p2, .int (F 3), .int v2, .int s5, .int s6, .int (-9), .ref (ad (15, (F 7).toNatClampNeg))]))) (15, (F 7).toNatClampNeg) (.inl (cy 7, 3, rf_ (fun _ => none)))) (11, 0) (.inl (cy 3, 24, rf_ (va_up (fun i => if i < (F 7).toNatClampNeg then some (ad (5, i)) else none) (F 7).toNatClampNeg (some (ad (5, (F 7).toNatClampNeg))))))) (9, 0) (.inr (9, [.int (F 3), .int (F 4), .ref (ad (10, 0)), .ref (ad (11, 0)), .int (F 7 + 1), .int (F 16), .ref (ad (12, 0)), .int (F 21), .ref (ad (13, 0)), .int (F 25), .ref (ad (14, 0)), .int (F 32), .ref (ad (16, 0)), .int (F 38), .ref (ad (2, 0)), .ref (ad (17, 0)), .int (F 2), .int (F 0), .ref (ad (18, 0))])) r
    = eC ad cy (va_up F 7 ((F 7) + 1)) (va_up (va_up (va_up (va_up (va_up (va_up (va_up (va_up M 8 (upd (M 8) ((F 7).toNatClampNeg) p0)) 9 (upd (M 9) ((F 7).toNatClampNeg) p1)) 10 (upd (M 10) ((F 7).toNatClampNeg) p2)) 11 (upd (M 11) ((F 7).toNatClampNeg) (F 3))) 15 (upd (M 15) ((F 7).toNatClampNeg) (-9))) 12 (upd (M 12) ((F 7).toNatClampNeg) v2)) 13 (upd (M 13) ((F 7).toNatClampNeg) v3)) 14 (upd (M 14) ((F 7).toNatClampNeg) v4)) Y r := by
  have hcl := cl_s hn (by decide)
  have h31 := ib_c31 (F 7)
  have hlt : (F 7).toNatClampNeg < 24 := (ib_cl hn).2
  obtain ⟨c, i⟩ := r
  by_cases q9 : (c, i) = (9, 0)
  · rw [q9, ru_s]; rfl
  · rw [ru_n q9]
    by_cases qa : (c, i) = (11, 0)
    · rw [qa, ru_s, en_11]
      refine congrArg (fun z => Sum.inl (cy 3, 24, rf_ z)) (funext fun x => ?_)
      show va_up _ (F 7).toNatClampNeg _ x = if x < (F 7 + 1).toNatClampNeg then some (ad (5, x)) else none
      rw [hcl]
      unfold va_up
      by_cases e : x = (F 7).toNatClampNeg
      · rw [if_pos e, if_pos (by omega), e]
      · rw [if_neg e]
        show (if x < (F 7).toNatClampNeg then some (ad (5, x)) else none) = _
        by_cases e2 : x < (F 7).toNatClampNeg
        · rw [if_pos e2, if_pos (by omega)]
        · rw [if_neg e2, if_neg (by omega)]
    · rw [ru_n qa]
      by_cases qb : (c, i) = (15, (F 7).toNatClampNeg)
      · rw [qb, ru_s, en_15]
        refine congrArg (fun z => Sum.inl (cy 7, 3, rf_ z)) (funext fun x => ?_)
        show none = if x < 3 then (lt_N (M 17) (M 18) (nI (F 7).toNatClampNeg) (nI x) (F 16).toNatClampNeg).map (fun j => ad (4, j)) else none
        rw [lt_no]
        · by_cases e : x < 3
          · rw [if_pos e]; rfl
          · rw [if_neg e]
        · intro k hk q
          have h := (jv_n hJ k hk).2.2.2
          rw [q] at h
          have h2 := (ib_cl h).2
          rw [nI_clamp (by omega)] at h2
          omega
      · rw [ru_n qb]
        by_cases qo : (c, i) = (5, (F 7).toNatClampNeg)
        · rw [qo, ru_s, en_5]
          subst h5
          subst h6
          simp [va_up, upd]
        · rw [ru_n qo]
          by_cases co : c = 5
          · subst co
            have hne : ¬ i = (F 7).toNatClampNeg := fun q => qo (by rw [q])
            rw [en_5, en_5]
            simp [va_up, upd, hne]
          · by_cases c15 : c = 15
            · subst c15
              rw [en_15, en_15]
              rfl
            · have c9 : ¬ c = 9 := by
                intro q; subst q
                have hi : i < 1 := by simp [vd] at hr; omega
                exact q9 (by rw [show i = 0 by omega])
              have ca : ¬ c = 11 := by
                intro q; subst q
                have hi : i < 1 := by simp [vd] at hr; omega
                exact qa (by rw [show i = 0 by omega])
              simp [eC, va_up, co, c15, c9, ca]

set_option maxHeartbeats 4000000 in
set_option maxRecDepth 100000 in
theorem c_X5_send (l : Launch) (dC : Nat → ClassId) (dI : Nat → Nat → Nat) (rl : List (Nat × Nat)) (ad : Nat × Nat → Nat) (cy : Nat → ClassId) (en : Nat × Nat → va_E) (r r6 : Nat × Nat) (p0 : Int32) (v0 : Int32) (v1 : Int32) (v2 : Int32) (v3 : Int32) (v4 : Int32) (v5 : Int32) (v6 : Int32) (v7 : Int32) (w : Nat) (x0 x1 : Int32) (hr0 : r ∈ rl) (h6 : r6 ∈ rl) (he6 : en r6 = .inr (6, [.int x0, .int x1])) (hne : ¬ r6 = r) (he : en r = .inr (5, [.int v0, .int v1, .int v2, .int v3, .int v4, .int v5, .int v6, .int v7, .ref w])) (A : Nat → Prop) (hD : va_D A (rx_W rl ad en)) : Met l yX5_send wsX5_send ({ frames := 0, cells := 0, slots := 0, locals := 0 } : Room) (va_Pc [.ref (ad r), .int p0, .ref (ad r6)] (pC dC dI rl ad cy en)) (va_Qv (fun (_ : Unit) => True) (fun _ t => pC dC dI rl ad cy (ru_ en r (.inr (5, [.int v0, .int v1, .int v2, .int v3, .int p0, .int (p0 + x0), .int (p0 + x1), .int v7, .ref w]))) t ∧ va_D A (rx_W rl ad (ru_ en r (.inr (5, [.int v0, .int v1, .int v2, .int v3, .int p0, .int (p0 + x0), .int (p0 + x1), .int v7, .ref w]))))) A) 0 0 A := by
  refine Met.ofW (cc := cX5_send) (maxL := 3) (ret := none) (by decide) rfl ?_
  intro p e s m args below meth c s₁ B hml hv
  obtain ⟨rfl, hP, hK, hN⟩ := hv
  have hx := B.exec
  have hb := B.bytes
  have hr := B.returns
  have hts := atoms_spec (ws := wsX5_send) B.pre
  have hown : s.vm.findClass RX5 = some m.cls := findClass_of_methodNamed B.named
  have hlocks := B.notSynchronized
  have hin5 : ∀ w ∈ wsX50, w ∈ wsX5_send := by decide +kernel
  have hin6 : ∀ w ∈ wsX60, w ∈ wsX5_send := by decide +kernel
  have hS : va_S A s.heap s.heap [] := va_S.rf
  have hl := lv_entry ([.ref (ad r), .int p0, .ref (ad r6)]) (n := 3) (Nat.le_of_ble_eq_true rfl)
  rw [lg_entry_eq]
  generalize (lg_sl ([.ref (ad r), .int p0, .ref (ad r6)]) ++ List.replicate (3 - (lg_sl ([.ref (ad r), .int p0, .ref (ad r6)])).length) Slot.unset).toArray = ls at hl ⊢
  have hl : lv_has ls 3 [(0, .ref (ad r)), (1, .int p0), (2, .ref (ad r6))] := hl
  refine lv_aload_n hx hb dX5_send_0 rfl (lv_at hl 0 rfl) ?_
  refine lv_iload_n hx hb dX5_send_1 rfl (lv_at hl 1 rfl) ?_
  refine rg_put (D := (dC, dI)) (r := r) (ci := 5) (v := .int p0) (ty := .int) (C := RX5) (T := TX5) (N := 9) hx hb hts hin5 tyX5 tyX5_ok nmX5 hown hK hP hD hS hr0 he rfl 4 (by decide) (hts (.fieldLink RX5 9 "SocietyBook$Paper" "sentOn" "I") (by decide +kernel)) (fun _ h9 => h9) rfl (by decide +kernel) rfl rfl (Nat.le_of_ble_eq_true rfl) dX5_send_2 (fun H locs hP hD hS => ?_)
  replace hP : va_P (dC, dI) vwCl (rx_W rl ad (ru_ en r (.inr (5, [.int v0, .int v1, .int v2, .int v3, .int p0, .int v5, .int v6, .int v7, .ref w])))) H := hP
  replace hD : va_D A (rx_W rl ad (ru_ en r (.inr (5, [.int v0, .int v1, .int v2, .int v3, .int p0, .int v5, .int v6, .int v7, .ref w])))) := hD
  refine lv_aload_n hx hb dX5_send_5 rfl (lv_at hl 0 rfl) ?_
  refine lv_iload_n hx hb dX5_send_6 rfl (lv_at hl 1 rfl) ?_
  refine lv_aload_n hx hb dX5_send_7 rfl (lv_at hl 2 rfl) ?_
  refine rg_get (D := (dC, dI)) (r := r6) (ci := 6) (v := .int x0) (C := RX6) (T := TX6) (N := 2) hx hb hts hin6 hown hK hP h6 ((ru_n hne).trans he6) rfl 0 (by decide) (hts (.fieldLink RX5 42 "SocietyBook$Post" "least" "I") (by decide +kernel)) (fun _ h9 => h9) rfl dX5_send_8 ?_
  refine lv_iadd hx hb dX5_send_11 ?_
  refine rg_put (D := (dC, dI)) (r := r) (ci := 5) (v := .int (p0 + x0)) (ty := .int) (C := RX5) (T := TX5) (N := 9) hx hb hts hin5 tyX5 tyX5_ok nmX5 hown hK hP hD hS hr0 ru_s rfl 5 (by decide) (hts (.fieldLink RX5 15 "SocietyBook$Paper" "spanStart" "I") (by decide +kernel)) (fun _ h9 => h9) rfl (by decide +kernel) rfl rfl (Nat.le_of_ble_eq_true rfl) dX5_send_12 (fun H locs hP hD hS => ?_)
  rw [ru_ru] at hP hD
  replace hP : va_P (dC, dI) vwCl (rx_W rl ad (ru_ en r (.inr (5, [.int v0, .int v1, .int v2, .int v3, .int p0, .int (p0 + x0), .int v6, .int v7, .ref w])))) H := hP
  replace hD : va_D A (rx_W rl ad (ru_ en r (.inr (5, [.int v0, .int v1, .int v2, .int v3, .int p0, .int (p0 + x0), .int v6, .int v7, .ref w])))) := hD
  refine lv_aload_n hx hb dX5_send_15 rfl (lv_at hl 0 rfl) ?_
  refine lv_iload_n hx hb dX5_send_16 rfl (lv_at hl 1 rfl) ?_
  refine lv_aload_n hx hb dX5_send_17 rfl (lv_at hl 2 rfl) ?_
  refine rg_get (D := (dC, dI)) (r := r6) (ci := 6) (v := .int x1) (C := RX6) (T := TX6) (N := 2) hx hb hts hin6 hown hK hP h6 ((ru_n hne).trans he6) rfl 1 (by decide) (hts (.fieldLink RX5 47 "SocietyBook$Post" "most" "I") (by decide +kernel)) (fun _ h9 => h9) rfl dX5_send_18 ?_
  refine lv_iadd hx hb dX5_send_21 ?_
  refine rg_put (D := (dC, dI)) (r := r) (ci := 5) (v := .int (p0 + x1)) (ty := .int) (C := RX5) (T := TX5) (N := 9) hx hb hts hin5 tyX5 tyX5_ok nmX5 hown hK hP hD hS hr0 ru_s rfl 6 (by decide) (hts (.fieldLink RX5 18 "SocietyBook$Paper" "spanEnd" "I") (by decide +kernel)) (fun _ h9 => h9) rfl (by decide +kernel) rfl rfl (Nat.le_of_ble_eq_true rfl) dX5_send_22 (fun H locs hP hD hS => ?_)
  rw [ru_ru] at hP hD
  replace hP : va_P (dC, dI) vwCl (rx_W rl ad (ru_ en r (.inr (5, [.int v0, .int v1, .int v2, .int v3, .int p0, .int (p0 + x0), .int (p0 + x1), .int v7, .ref w])))) H := hP
  replace hD : va_D A (rx_W rl ad (ru_ en r (.inr (5, [.int v0, .int v1, .int v2, .int v3, .int p0, .int (p0 + x0), .int (p0 + x1), .int v7, .ref w])))) := hD
  exact W.vret hx hb hr (fun t ht hW => ⟨⟨(), rfl, trivial, ⟨⟨by rw [ht]; exact hP, va_K.moved hW.alike hK, nst_w hW hN⟩, hD⟩⟩, hS.F ht⟩) hS.2.2 dX5_send_25

set_option maxHeartbeats 4000000 in
set_option maxRecDepth 100000 in
theorem c_X10_paper (l : Launch) (dC : Nat → ClassId) (dI : Nat → Nat → Nat) (rl : List (Nat × Nat)) (ad : Nat × Nat → Nat) (cy : Nat → ClassId) (F : Nat → Int32) (M Y : Nat → Nat → Int32) (p0 : Int32) (p1 : Int32) (p2 : Int32) (p3 : Int32) (p4 : Int32) (hrl : ∀ r, r ∈ rl ↔ vd F r) (hI : iv F M) (hJ : jv F M) (A : Nat → Prop) (hD : va_D A (rx_W rl ad (eC ad cy F M Y))) : Met l yX10_paper wsX10_paper ({ frames := 2, cells := 2, slots := 12, locals := 43 } : Room) (va_Pc [.ref (ad (9, 0)), .int p0, .int p1, .int p2, .int p3, .int p4] (pN A dC dI rl ad cy (eC ad cy F M Y))) (va_Qi (fun r (_ : (Nat × Nat → Nat) × List (Nat × Nat) × (Nat → Nat → Int32)) => r = (s_X11_paper F M p0 p1 p2 p3 p4).1) (qA A dC dI (ad (9, 0)) cy (s_X11_paper F M p0 p1 p2 p3 p4).2.1 (s_X11_paper F M p0 p1 p2 p3 p4).2.2) A) 2 12 A := by
  refine Met.ofW (cc := cX10_paper) (maxL := 7) (ret := (some .int)) (by decide) rfl ?_
  intro p e s m args below meth c s₁ B hml hv
  obtain ⟨rfl, hO, hA, hP, hK, hN⟩ := hv
  have hx := B.exec
  have hb := B.bytes
  have hr := B.returns
  have hts := atoms_spec (ws := wsX10_paper) B.pre
  have hown : s.vm.findClass RX10 = some m.cls := findClass_of_methodNamed B.named
  have hlocks := B.notSynchronized
  have hin10 : ∀ w ∈ wsX100, w ∈ wsX10_paper := by decide +kernel
  have hin5 : ∀ w ∈ wsX50, w ∈ wsX10_paper := by decide +kernel
  have hS : va_S A s.heap s.heap [] := va_S.rf
  have hl := lv_entry ([.ref (ad (9, 0)), .int p0, .int p1, .int p2, .int p3, .int p4]) (n := 7) (Nat.le_of_ble_eq_true rfl)
  rw [lg_entry_eq]
  generalize (lg_sl ([.ref (ad (9, 0)), .int p0, .int p1, .int p2, .int p3, .int p4]) ++ List.replicate (7 - (lg_sl ([.ref (ad (9, 0)), .int p0, .int p1, .int p2, .int p3, .int p4])).length) Slot.unset).toArray = ls at hl ⊢
  have hl : lv_has ls 7 [(0, .ref (ad (9, 0))), (1, .int p0), (2, .int p1), (3, .int p2), (4, .int p3), (5, .int p4)] := hl
  refine lv_iload_n hx hb dX10_paper_0 rfl (lv_at hl 1 rfl) ?_
  refine lv_iconst (v := 0) hx hb dX10_paper_1 (by decide) ?_
  refine lv_iconst (v := 2) hx hb dX10_paper_2 (by decide) ?_
  refine vp_callSi (W.runS (As := [.int p0, .int 0, .int 2]) (rest := []) ⟨hx, hb, hml, hown, hts⟩ (c_X10_isWithin l p0 0 2) (va_cwS 3 hts gX10_paper_X10_isWithin rfl rfl rfl (by decide +kernel) ⟨Nat.le_of_ble_eq_true rfl, Nat.le_of_ble_eq_true rfl⟩) ⟨fun _ _ _ _ q => q, fun U hU hW => ⟨rfl, trivial⟩⟩ rfl rfl hl.1 rfl (lv_room (Nat.le_of_ble_eq_true rfl)) dX10_paper_3 ⟨Nat.zero_le _, Nat.zero_le _⟩) (fun r hr9 => ?_)
  subst hr9
  refine lv_if_eq (tgt := 27) hx hb dX10_paper_6 (by decide) (fun c1 => ?_) (fun c1 => ?_)
  · replace c1 := bo_f c1
    refine lv_iconst (v := (-1)) hx hb dX10_paper_27 (by decide) ?_
    have E9 : s_X11_paper F M p0 p1 p2 p3 p4 = ((-1), (F, M)) := by unfold s_X11_paper; rw [if_neg c1]
    refine W.widen (k := 2) (n := 12) (Nat.le_of_ble_eq_true rfl) (Nat.le_of_ble_eq_true rfl) ?_
    exact W.iret (v := (-1)) hx hb hr (fun t ht hW => ⟨⟨(-1), (ad, rl, Y), rfl, by rw [E9], by rw [E9]; exact ⟨⟨⟨by rw [ht]; exact hP, va_K.moved hW.alike hK, nst_w hW hN⟩, hD⟩, hrl, rfl⟩⟩, hS.F ht⟩) hS.2.2 dX10_paper_28
  · replace c1 := bo_t c1
    refine lv_aload_n hx hb dX10_paper_9 rfl (lv_at hl 0 rfl) ?_
    refine lv_iload_n hx hb dX10_paper_10 rfl (lv_at hl 2 rfl) ?_
    refine vp_callSi (W.runV (As := [.int p1]) (rest := []) ⟨hx, hb, hml, hown, hts⟩ (c_X10_isFellow l dC dI rl ad cy F M Y  p1 hrl hI hJ ) (cwV 1 hts gX10_paper_X10_isFellow rfl rfl rfl (by decide +kernel) ⟨Nat.le_of_ble_eq_true rfl, Nat.le_of_ble_eq_true rfl⟩) ⟨pc_blind, rg_recv hK hP ((hrl _).mpr (vd_9 (by decide))) (ci := 9) rfl en_9, fun U hU hW => ⟨rfl, by rw [hU]; exact hP, va_K.moved hW.alike hK, nst_w hW hN⟩⟩ rfl rfl hl.1 rfl (lv_room (Nat.le_of_ble_eq_true rfl)) dX10_paper_11 ⟨Nat.zero_le _, Nat.zero_le _⟩) (fun r hr9 => ?_)
    subst hr9
    refine lv_if_eq (tgt := 27) hx hb dX10_paper_14 (by decide) (fun c2 => ?_) (fun c2 => ?_)
    · replace c2 := bo_f c2
      refine lv_iconst (v := (-1)) hx hb dX10_paper_27 (by decide) ?_
      have E9 : s_X11_paper F M p0 p1 p2 p3 p4 = ((-1), (F, M)) := by unfold s_X11_paper; rw [if_pos c1]; rw [if_neg c2]
      refine W.widen (k := 2) (n := 12) (Nat.le_of_ble_eq_true rfl) (Nat.le_of_ble_eq_true rfl) ?_
      exact W.iret (v := (-1)) hx hb hr (fun t ht hW => ⟨⟨(-1), (ad, rl, Y), rfl, by rw [E9], by rw [E9]; exact ⟨⟨⟨by rw [ht]; exact hP, va_K.moved hW.alike hK, nst_w hW hN⟩, hD⟩, hrl, rfl⟩⟩, hS.F ht⟩) hS.2.2 dX10_paper_28
    · replace c2 := bo_t c2
      refine lv_iload_n hx hb dX10_paper_17 rfl (lv_at hl 3 rfl) ?_
      refine lv_iconst (v := 0) hx hb dX10_paper_18 (by decide) ?_
      refine lv_ldc (v := (65535)) hx hb hown (hts (.constant RX10 90 (65535)) (by decide +kernel)) dX10_paper_19 ?_
      refine vp_callSi (W.runS (As := [.int p2, .int 0, .int (65535)]) (rest := []) ⟨hx, hb, hml, hown, hts⟩ (c_X10_isWithin l p2 0 (65535)) (va_cwS 3 hts gX10_paper_X10_isWithin rfl rfl rfl (by decide +kernel) ⟨Nat.le_of_ble_eq_true rfl, Nat.le_of_ble_eq_true rfl⟩) ⟨fun _ _ _ _ q => q, fun U hU hW => ⟨rfl, trivial⟩⟩ rfl rfl hl.1 rfl (lv_room (Nat.le_of_ble_eq_true rfl)) dX10_paper_21 ⟨Nat.zero_le _, Nat.zero_le _⟩) (fun r hr9 => ?_)
      subst hr9
      refine lv_if_ne (tgt := 29) hx hb dX10_paper_24 (by decide) (fun c3 => ?_) (fun c3 => ?_)
      · replace c3 := bo_t c3
        refine lv_iload_n hx hb dX10_paper_29 rfl (lv_at hl 1 rfl) ?_
        refine lv_iconst (v := 2) hx hb dX10_paper_30 (by decide) ?_
        refine lv_icmp_ne (tgt := 59) hx hb dX10_paper_31 (by decide) (fun c4 => ?_) (fun c4 => ?_)
        · refine lv_aload_n hx hb dX10_paper_59 rfl (lv_at hl 0 rfl) ?_
          refine rg_get (D := (dC, dI)) (r := (9, 0)) (ci := 9) (v := .int (F 7)) (C := RX10) (T := TX10) (N := 19) hx hb hts hin10 hown hK hP ((hrl _).mpr (vd_9 (by decide))) en_9 rfl 4 (by decide) (hts (.fieldLink RX10 91 "SocietyBook" "paperCount" "I") (by decide +kernel)) (fun _ h9 => h9) rfl dX10_paper_60 ?_
          refine lv_bipush (v := 24) hx hb dX10_paper_63 (by decide) ?_
          refine lv_icmp_lt (tgt := 71) hx hb dX10_paper_65 (by decide) (fun c5 => ?_) (fun c5 => ?_)
          · refine rg_new (r := (5, (F 7).toNatClampNeg)) (ci := 5) (fs := [.int 0, .int 0, .int 0, .int 0, .int 0, .int 0, .int 0, .int 0, .null]) hx hb hts hin5 tyX5 tyX5_ok hown (hts (.classLink RX10 15 RX5) (by decide +kernel)) (hts (.instantiable RX5 9) (by decide +kernel)) (hts (.initialized RX5) (by decide +kernel)) hK hP hD hS hA rfl (by decide) (Nat.le_of_ble_eq_true rfl) (Nat.le_of_ble_eq_true rfl) dX10_paper_71 (fun q => al_n5 ((hrl _).mp q)) (fun a2 H h2 hP hD hS => ?_)
            have hw := al_w h2 al_n5
            replace hP := al_P h2 hrl al_n5 (Or.inr (Or.inr (Or.inr (Or.inl rfl)))) hP
            skip
            rw [hw (9, 0) (vd_9 (by decide))] at hl
            replace hP : va_P (dC, dI) vwCl (rx_W (rl ++ [(5, (F 7).toNatClampNeg)]) a2 (ru_ (eC a2 cy F M Y) (5, (F 7).toNatClampNeg) (.inr (5, [.int 0, .int 0, .int 0, .int 0, .int 0, .int 0, .int 0, .int 0, .null])))) H := hP
            replace hD : va_D A (rx_W (rl ++ [(5, (F 7).toNatClampNeg)]) a2 (ru_ (eC a2 cy F M Y) (5, (F 7).toNatClampNeg) (.inr (5, [.int 0, .int 0, .int 0, .int 0, .int 0, .int 0, .int 0, .int 0, .null])))) := rx_D hD
            refine lv_dup hx hb dX10_paper_74 rfl ?_
            refine lv_iload_n hx hb dX10_paper_75 rfl (lv_at hl 1 rfl) ?_
            refine lv_iload_n hx hb dX10_paper_76 rfl (lv_at hl 2 rfl) ?_
            refine lv_iload_n hx hb dX10_paper_77 rfl (lv_at hl 3 rfl) ?_
            refine lv_aload_n hx hb dX10_paper_78 rfl (lv_at hl 0 rfl) ?_
            refine rg_get (D := (dC, dI)) (r := (9, 0)) (ci := 9) (v := .int (F 3)) (C := RX10) (T := TX10) (N := 19) hx hb hts hin10 hown hK hP (List.mem_append_left _ ((hrl _).mpr (vd_9 (by decide)))) ((ru_n (by intro q; cases q)).trans en_9) rfl 0 (by decide) (hts (.fieldLink RX10 65 "SocietyBook" "today" "I") (by decide +kernel)) (fun _ h9 => h9) rfl dX10_paper_79 ?_
            refine va_callv (va_runI (As := [.int p0, .int p1, .int p2, .int (F 3)]) (rest := [.ref (a2 (5, (F 7).toNatClampNeg))]) ⟨hx, hb, hml, hown, hts⟩ (c_X5_init l dC dI (rl ++ [(5, (F 7).toNatClampNeg)]) a2 cy (ru_ (eC a2 cy F M Y) (5, (F 7).toNatClampNeg) (.inr (5, [.int 0, .int 0, .int 0, .int 0, .int 0, .int 0, .int 0, .int 0, .null]))) (5, (F 7).toNatClampNeg) (15, (F 7).toNatClampNeg) p0 p1 p2 (F 3) (List.mem_append_right _ (List.mem_singleton.mpr rfl)) (fun q => (List.mem_append.mp q).elim (fun z => al_n15 ((hrl _).mp z)) (fun z => by have h := List.mem_singleton.mp z; cases h)) ru_s A hD) (cwI 4 hts gX10_paper_X5_init rfl rfl rfl (hts (.initialized RX5) (by decide +kernel)) (hts (.methodLink RX10 94 yX5_init) (by decide +kernel)) (hts (.instanceMethod yX5_init) (by decide +kernel)) rfl (by decide +kernel) ⟨Nat.le_of_ble_eq_true rfl, Nat.le_of_ble_eq_true rfl⟩) ⟨pn_blind, fun U hU hW => ⟨rfl, va_AO.moved hW.alike hO, fun q hq => hA q (Nat.le_trans hS.1 (by rw [← hU]; exact hq)), by rw [hU]; exact hP, va_K.moved hW.alike hK, nst_w hW hN⟩⟩ rfl rfl hl.1 rfl (lv_room (Nat.le_of_ble_eq_true rfl)) dX10_paper_82 ⟨Nat.le_of_ble_eq_true rfl, Nat.le_of_ble_eq_true rfl⟩) hS (fun q _ h => h) (fun q h => h) (fun a3 t H1 locs ht hvm h3 hB hz1 hk1 hS => ?_)
            obtain ⟨⟨hP, -, -⟩, hD⟩ := hB
            rw [ht] at hP
            clear hz1 hk1 ht hvm; generalize H1 = H at hP hS ⊢
            rw [ru_ru] at hP hD
            replace hP := al_P2 h3 hrl al_n15 (Or.inr (Or.inr (Or.inr (Or.inr (Or.inr rfl))))) hP
            have hw3 : ∀ x, ¬ x = (15, (F 7).toNatClampNeg) → a2 x = a3 x := fun x hx => (h3 x hx).symm
            refine W.eq (g2 := F0 m 85 ls (.ref (a3 (5, (F 7).toNatClampNeg)) :: [])) (by rw [hw3 (5, (F 7).toNatClampNeg) (by intro q; cases q)]) ?_
            rw [hw3 (9, 0) (by intro q; cases q)] at hl
            replace hP : va_P (dC, dI) vwCl (rx_W ((rl ++ [(5, (F 7).toNatClampNeg)]) ++ [(15, (F 7).toNatClampNeg)]) a3 (ru_ (ru_ (eC a3 cy F M Y) (5, (F 7).toNatClampNeg) (.inr (5, [.int p0, .int p1, .int p2, .int (F 3), .int (-9), .int (-9), .int (-9), .int (-9), .ref (a3 (15, (F 7).toNatClampNeg))]))) (15, (F 7).toNatClampNeg) (.inl (cy 7, 3, rf_ (fun _ => none))))) H := hP
            replace hD : va_D A (rx_W ((rl ++ [(5, (F 7).toNatClampNeg)]) ++ [(15, (F 7).toNatClampNeg)]) a3 (ru_ (ru_ (eC a3 cy F M Y) (5, (F 7).toNatClampNeg) (.inr (5, [.int p0, .int p1, .int p2, .int (F 3), .int (-9), .int (-9), .int (-9), .int (-9), .ref (a3 (15, (F 7).toNatClampNeg))]))) (15, (F 7).toNatClampNeg) (.inl (cy 7, 3, rf_ (fun _ => none))))) := rx_D hD
            refine lv_astore (lv' := [(6, .ref (a3 (5, (F 7).toNatClampNeg))), (0, .ref (a3 (9, 0))), (1, .int p0), (2, .int p1), (3, .int p2), (4, .int p3), (5, .int p4)]) hx hb dX10_paper_85 hl (by decide) rfl (fun ls hl => ?_)
            refine lv_iload_n hx hb dX10_paper_87 rfl (lv_at hl 2 rfl) ?_
            refine lv_iconst (v := 2) hx hb dX10_paper_88 (by decide) ?_
            refine lv_icmp_ne (tgt := 106) hx hb dX10_paper_89 (by decide) (fun _ => ?_) (fun c => absurd c c4)
            refine lv_aload_n hx hb dX10_paper_106 rfl (lv_at hl 1 rfl) ?_
            refine rg_get (D := (dC, dI)) (r := (9, 0)) (ci := 9) (v := .ref (a3 (11, 0))) (C := RX10) (T := TX10) (N := 19) hx hb hts hin10 hown hK hP (List.mem_append_left _ (List.mem_append_left _ ((hrl _).mpr (vd_9 (by decide))))) ((ru_n (by intro q; cases q)).trans ((ru_n (by intro q; cases q)).trans en_9)) rfl 3 (by decide) (hts (.fieldLink RX10 17 "SocietyBook" "papers" "[LSocietyBook$Paper;") (by decide +kernel)) (fun _ h9 => h9) rfl dX10_paper_107 ?_
            refine lv_aload_n hx hb dX10_paper_110 rfl (lv_at hl 1 rfl) ?_
            refine rg_get (D := (dC, dI)) (r := (9, 0)) (ci := 9) (v := .int (F 7)) (C := RX10) (T := TX10) (N := 19) hx hb hts hin10 hown hK hP (List.mem_append_left _ (List.mem_append_left _ ((hrl _).mpr (vd_9 (by decide))))) ((ru_n (by intro q; cases q)).trans ((ru_n (by intro q; cases q)).trans en_9)) rfl 4 (by decide) (hts (.fieldLink RX10 91 "SocietyBook" "paperCount" "I") (by decide +kernel)) (fun _ h9 => h9) rfl dX10_paper_111 ?_
            refine lv_aload hx hb dX10_paper_114 (lv_at hl 0 rfl) ?_
            refine rg_astq (r := (11, 0)) (x := (5, (F 7).toNatClampNeg)) hx hb hK hP hD hS (List.mem_append_left _ (List.mem_append_left _ ((hrl _).mpr (vd_11 (by decide))))) 3 5 (List.mem_append_left _ (List.mem_append_right _ (List.mem_singleton.mpr rfl))) ((ru_n (by intro q; cases q)).trans ((ru_n (by intro q; cases q)).trans en_11)) rfl ((ru_n (by intro q; cases q)).trans ru_s) rfl (ib_ct (iv_7 hI) (fu_f (Int32.not_le.mpr c5)) (by decide)) dX10_paper_116 (fun H locs hP hD hS => ?_)
            replace hP : va_P (dC, dI) vwCl (rx_W ((rl ++ [(5, (F 7).toNatClampNeg)]) ++ [(15, (F 7).toNatClampNeg)]) a3 (ru_ (ru_ (ru_ (eC a3 cy F M Y) (5, (F 7).toNatClampNeg) (.inr (5, [.int p0, .int p1, .int p2, .int (F 3), .int (-9), .int (-9), .int (-9), .int (-9), .ref (a3 (15, (F 7).toNatClampNeg))]))) (15, (F 7).toNatClampNeg) (.inl (cy 7, 3, rf_ (fun _ => none)))) (11, 0) (.inl (cy 3, 24, rf_ (va_up (fun i => if i < (F 7).toNatClampNeg then some (a3 (5, i)) else none) ((F 7).toNatClampNeg) (some (a3 (5, (F 7).toNatClampNeg)))))))) H := hP
            replace hD : va_D A (rx_W ((rl ++ [(5, (F 7).toNatClampNeg)]) ++ [(15, (F 7).toNatClampNeg)]) a3 (ru_ (ru_ (ru_ (eC a3 cy F M Y) (5, (F 7).toNatClampNeg) (.inr (5, [.int p0, .int p1, .int p2, .int (F 3), .int (-9), .int (-9), .int (-9), .int (-9), .ref (a3 (15, (F 7).toNatClampNeg))]))) (15, (F 7).toNatClampNeg) (.inl (cy 7, 3, rf_ (fun _ => none)))) (11, 0) (.inl (cy 3, 24, rf_ (va_up (fun i => if i < (F 7).toNatClampNeg then some (a3 (5, i)) else none) ((F 7).toNatClampNeg) (some (a3 (5, (F 7).toNatClampNeg)))))))) := hD
            refine lv_aload_n hx hb dX10_paper_117 rfl (lv_at hl 1 rfl) ?_
            refine lv_dup hx hb dX10_paper_118 rfl ?_
            refine rg_get (D := (dC, dI)) (r := (9, 0)) (ci := 9) (v := .int (F 7)) (C := RX10) (T := TX10) (N := 19) hx hb hts hin10 hown hK hP (List.mem_append_left _ (List.mem_append_left _ ((hrl _).mpr (vd_9 (by decide))))) ((ru_n (by intro q; cases q)).trans ((ru_n (by intro q; cases q)).trans ((ru_n (by intro q; cases q)).trans en_9))) rfl 4 (by decide) (hts (.fieldLink RX10 91 "SocietyBook" "paperCount" "I") (by decide +kernel)) (fun _ h9 => h9) rfl dX10_paper_119 ?_
            refine lv_iconst (v := 1) hx hb dX10_paper_122 (by decide) ?_
            refine lv_iadd hx hb dX10_paper_123 ?_
            refine rg_put (D := (dC, dI)) (r := (9, 0)) (ci := 9) (v := .int ((F 7) + 1)) (ty := .int) (C := RX10) (T := TX10) (N := 19) hx hb hts hin10 tyX10 tyX10_ok nmX10 hown hK hP hD hS (List.mem_append_left _ (List.mem_append_left _ ((hrl _).mpr (vd_9 (by decide))))) ((ru_n (by intro q; cases q)).trans ((ru_n (by intro q; cases q)).trans ((ru_n (by intro q; cases q)).trans en_9))) rfl 4 (by decide) (hts (.fieldLink RX10 91 "SocietyBook" "paperCount" "I") (by decide +kernel)) (fun _ h9 => h9) rfl (by decide +kernel) rfl rfl (Nat.le_of_ble_eq_true rfl) dX10_paper_124 (fun H locs hP hD hS => ?_)
            replace hP : va_P (dC, dI) vwCl (rx_W ((rl ++ [(5, (F 7).toNatClampNeg)]) ++ [(15, (F 7).toNatClampNeg)]) a3 (ru_ (ru_ (ru_ (ru_ (eC a3 cy F M Y) (5, (F 7).toNatClampNeg) (.inr (5, [.int p0, .int p1, .int p2, .int (F 3), .int (-9), .int (-9), .int (-9), .int (-9), .ref (a3 (15, (F 7).toNatClampNeg))]))) (15, (F 7).toNatClampNeg) (.inl (cy 7, 3, rf_ (fun _ => none)))) (11, 0) (.inl (cy 3, 24, rf_ (va_up (fun i => if i < (F 7).toNatClampNeg then some (a3 (5, i)) else none) ((F 7).toNatClampNeg) (some (a3 (5, (F 7).toNatClampNeg))))))) (9, 0) (.inr (9, [.int (F 3), .int (F 4), .ref (a3 (10, 0)), .ref (a3 (11, 0)), .int ((F 7) + 1), .int (F 16), .ref (a3 (12, 0)), .int (F 21), .ref (a3 (13, 0)), .int (F 25), .ref (a3 (14, 0)), .int (F 32), .ref (a3 (16, 0)), .int (F 38), .ref (a3 (2, 0)), .ref (a3 (17, 0)), .int (F 2), .int (F 0), .ref (a3 (18, 0))])))) H := hP
            replace hD : va_D A (rx_W ((rl ++ [(5, (F 7).toNatClampNeg)]) ++ [(15, (F 7).toNatClampNeg)]) a3 (ru_ (ru_ (ru_ (ru_ (eC a3 cy F M Y) (5, (F 7).toNatClampNeg) (.inr (5, [.int p0, .int p1, .int p2, .int (F 3), .int (-9), .int (-9), .int (-9), .int (-9), .ref (a3 (15, (F 7).toNatClampNeg))]))) (15, (F 7).toNatClampNeg) (.inl (cy 7, 3, rf_ (fun _ => none)))) (11, 0) (.inl (cy 3, 24, rf_ (va_up (fun i => if i < (F 7).toNatClampNeg then some (a3 (5, i)) else none) ((F 7).toNatClampNeg) (some (a3 (5, (F 7).toNatClampNeg))))))) (9, 0) (.inr (9, [.int (F 3), .int (F 4), .ref (a3 (10, 0)), .ref (a3 (11, 0)), .int ((F 7) + 1), .int (F 16), .ref (a3 (12, 0)), .int (F 21), .ref (a3 (13, 0)), .int (F 25), .ref (a3 (14, 0)), .int (F 32), .ref (a3 (16, 0)), .int (F 38), .ref (a3 (2, 0)), .ref (a3 (17, 0)), .int (F 2), .int (F 0), .ref (a3 (18, 0))])))) := hD
            refine lv_aload_n hx hb dX10_paper_127 rfl (lv_at hl 1 rfl) ?_
            refine rg_get (D := (dC, dI)) (r := (9, 0)) (ci := 9) (v := .int ((F 7) + 1)) (C := RX10) (T := TX10) (N := 19) hx hb hts hin10 hown hK hP (List.mem_append_left _ (List.mem_append_left _ ((hrl _).mpr (vd_9 (by decide))))) ru_s rfl 4 (by decide) (hts (.fieldLink RX10 91 "SocietyBook" "paperCount" "I") (by decide +kernel)) (fun _ h9 => h9) rfl dX10_paper_128 ?_
            refine lv_iconst (v := 1) hx hb dX10_paper_131 (by decide) ?_
            refine lv_isub hx hb dX10_paper_132 ?_
            have E9 : s_X11_paper F M p0 p1 p2 p3 p4 = (((F 7) + 1) - 1, (va_up F 7 ((F 7) + 1), va_up (va_up (va_up (va_up (va_up (va_up (va_up (va_up M 8 (upd (M 8) ((F 7).toNatClampNeg) p0)) 9 (upd (M 9) ((F 7).toNatClampNeg) p1)) 10 (upd (M 10) ((F 7).toNatClampNeg) p2)) 11 (upd (M 11) ((F 7).toNatClampNeg) (F 3))) 15 (upd (M 15) ((F 7).toNatClampNeg) (-9))) 12 (upd (M 12) ((F 7).toNatClampNeg) (-9))) 13 (upd (M 13) ((F 7).toNatClampNeg) 0)) 14 (upd (M 14) ((F 7).toNatClampNeg) 0))) := by unfold s_X11_paper; rw [if_pos c1]; rw [if_pos c2]; rw [if_pos c3]; rw [if_neg c4]; rw [if_neg (fu_f (Int32.not_le.mpr c5))]; rw [Int32.add_sub_cancel]
            have hv9 := al_v5 hrl (ib_ct (iv_7 hI) (fu_f (Int32.not_le.mpr c5)) (by decide))
            replace hP : va_P (dC, dI) vwCl (rx_W ((rl ++ [(5, (F 7).toNatClampNeg)]) ++ [(15, (F 7).toNatClampNeg)]) a3 (eC a3 cy (va_up F 7 ((F 7) + 1)) (va_up (va_up (va_up (va_up (va_up (va_up (va_up (va_up M 8 (upd (M 8) ((F 7).toNatClampNeg) p0)) 9 (upd (M 9) ((F 7).toNatClampNeg) p1)) 10 (upd (M 10) ((F 7).toNatClampNeg) p2)) 11 (upd (M 11) ((F 7).toNatClampNeg) (F 3))) 15 (upd (M 15) ((F 7).toNatClampNeg) (-9))) 12 (upd (M 12) ((F 7).toNatClampNeg) (-9))) 13 (upd (M 13) ((F 7).toNatClampNeg) 0)) 14 (upd (M 14) ((F 7).toNatClampNeg) 0)) Y)) H := by rw [← rx_cong (fun r hr => al_e5 a3 cy F M Y p0 p1 p2 (-9) 0 0 (-9) (-9) hJ (ib_ct (iv_7 hI) (fu_f (Int32.not_le.mpr c5)) (by decide)) (if_neg c4) (if_neg c4) r ((hv9 r).mp hr))]; exact hP
            replace hD : va_D A (rx_W ((rl ++ [(5, (F 7).toNatClampNeg)]) ++ [(15, (F 7).toNatClampNeg)]) a3 (eC a3 cy (va_up F 7 ((F 7) + 1)) (va_up (va_up (va_up (va_up (va_up (va_up (va_up (va_up M 8 (upd (M 8) ((F 7).toNatClampNeg) p0)) 9 (upd (M 9) ((F 7).toNatClampNeg) p1)) 10 (upd (M 10) ((F 7).toNatClampNeg) p2)) 11 (upd (M 11) ((F 7).toNatClampNeg) (F 3))) 15 (upd (M 15) ((F 7).toNatClampNeg) (-9))) 12 (upd (M 12) ((F 7).toNatClampNeg) (-9))) 13 (upd (M 13) ((F 7).toNatClampNeg) 0)) 14 (upd (M 14) ((F 7).toNatClampNeg) 0)) Y)) := rx_D hD
            exact W.iret (v := ((F 7) + 1) - 1) hx hb hr (fun t ht hW => ⟨⟨((F 7) + 1) - 1, (a3, (rl ++ [(5, (F 7).toNatClampNeg)]) ++ [(15, (F 7).toNatClampNeg)], Y), rfl, by rw [E9], by rw [E9]; exact ⟨⟨⟨by rw [ht]; exact hP, va_K.moved hW.alike hK, nst_w hW hN⟩, hD⟩, hv9, ((h3 _ (by intro q; cases q)).trans (hw _ (vd_9 (by decide))).symm)⟩⟩, hS.F ht⟩) hS.2.2 dX10_paper_133
          · refine lv_bipush (v := (-2)) hx hb dX10_paper_68 (by decide) ?_
            have E9 : s_X11_paper F M p0 p1 p2 p3 p4 = ((-2), (F, M)) := by unfold s_X11_paper; rw [if_pos c1]; rw [if_pos c2]; rw [if_pos c3]; rw [if_neg c4]; rw [if_pos (fu_t (iv_7 hI) (Int32.not_lt.mp c5))]
            refine W.widen (k := 2) (n := 12) (Nat.le_of_ble_eq_true rfl) (Nat.le_of_ble_eq_true rfl) ?_
            exact W.iret (v := (-2)) hx hb hr (fun t ht hW => ⟨⟨(-2), (ad, rl, Y), rfl, by rw [E9], by rw [E9]; exact ⟨⟨⟨by rw [ht]; exact hP, va_K.moved hW.alike hK, nst_w hW hN⟩, hD⟩, hrl, rfl⟩⟩, hS.F ht⟩) hS.2.2 dX10_paper_70
        · refine lv_iload hx hb dX10_paper_34 (lv_at hl 4 rfl) ?_
          refine lv_iconst (v := 0) hx hb dX10_paper_36 (by decide) ?_
          refine lv_aload_n hx hb dX10_paper_37 rfl (lv_at hl 0 rfl) ?_
          refine rg_get (D := (dC, dI)) (r := (9, 0)) (ci := 9) (v := .int (F 3)) (C := RX10) (T := TX10) (N := 19) hx hb hts hin10 hown hK hP ((hrl _).mpr (vd_9 (by decide))) en_9 rfl 0 (by decide) (hts (.fieldLink RX10 65 "SocietyBook" "today" "I") (by decide +kernel)) (fun _ h9 => h9) rfl dX10_paper_38 ?_
          refine vp_callSi (W.runS (As := [.int p3, .int 0, .int (F 3)]) (rest := []) ⟨hx, hb, hml, hown, hts⟩ (c_X10_isWithin l p3 0 (F 3)) (va_cwS 3 hts gX10_paper_X10_isWithin rfl rfl rfl (by decide +kernel) ⟨Nat.le_of_ble_eq_true rfl, Nat.le_of_ble_eq_true rfl⟩) ⟨fun _ _ _ _ q => q, fun U hU hW => ⟨rfl, trivial⟩⟩ rfl rfl hl.1 rfl (lv_room (Nat.le_of_ble_eq_true rfl)) dX10_paper_41 ⟨Nat.zero_le _, Nat.zero_le _⟩) (fun r hr9 => ?_)
          subst hr9
          refine lv_if_eq (tgt := 57) hx hb dX10_paper_44 (by decide) (fun c6 => ?_) (fun c6 => ?_)
          · replace c6 := bo_f c6
            refine lv_iconst (v := (-1)) hx hb dX10_paper_57 (by decide) ?_
            have E9 : s_X11_paper F M p0 p1 p2 p3 p4 = ((-1), (F, M)) := by unfold s_X11_paper; rw [if_pos c1]; rw [if_pos c2]; rw [if_pos c3]; rw [if_pos c4]; rw [if_neg c6]
            refine W.widen (k := 2) (n := 12) (Nat.le_of_ble_eq_true rfl) (Nat.le_of_ble_eq_true rfl) ?_
            exact W.iret (v := (-1)) hx hb hr (fun t ht hW => ⟨⟨(-1), (ad, rl, Y), rfl, by rw [E9], by rw [E9]; exact ⟨⟨⟨by rw [ht]; exact hP, va_K.moved hW.alike hK, nst_w hW hN⟩, hD⟩, hrl, rfl⟩⟩, hS.F ht⟩) hS.2.2 dX10_paper_58
          · replace c6 := bo_t c6
            refine lv_iload hx hb dX10_paper_47 (lv_at hl 5 rfl) ?_
            refine lv_iconst (v := 0) hx hb dX10_paper_49 (by decide) ?_
            refine lv_iconst (v := 5) hx hb dX10_paper_50 (by decide) ?_
            refine vp_callSi (W.runS (As := [.int p4, .int 0, .int 5]) (rest := []) ⟨hx, hb, hml, hown, hts⟩ (c_X10_isWithin l p4 0 5) (va_cwS 3 hts gX10_paper_X10_isWithin rfl rfl rfl (by decide +kernel) ⟨Nat.le_of_ble_eq_true rfl, Nat.le_of_ble_eq_true rfl⟩) ⟨fun _ _ _ _ q => q, fun U hU hW => ⟨rfl, trivial⟩⟩ rfl rfl hl.1 rfl (lv_room (Nat.le_of_ble_eq_true rfl)) dX10_paper_51 ⟨Nat.zero_le _, Nat.zero_le _⟩) (fun r hr9 => ?_)
            subst hr9
            refine lv_if_ne (tgt := 59) hx hb dX10_paper_54 (by decide) (fun c7 => ?_) (fun c7 => ?_)
            · replace c7 := bo_t c7
              refine lv_aload_n hx hb dX10_paper_59 rfl (lv_at hl 0 rfl) ?_
              refine rg_get (D := (dC, dI)) (r := (9, 0)) (ci := 9) (v := .int (F 7)) (C := RX10) (T := TX10) (N := 19) hx hb hts hin10 hown hK hP ((hrl _).mpr (vd_9 (by decide))) en_9 rfl 4 (by decide) (hts (.fieldLink RX10 91 "SocietyBook" "paperCount" "I") (by decide +kernel)) (fun _ h9 => h9) rfl dX10_paper_60 ?_
              refine lv_bipush (v := 24) hx hb dX10_paper_63 (by decide) ?_
              refine lv_icmp_lt (tgt := 71) hx hb dX10_paper_65 (by decide) (fun c8 => ?_) (fun c8 => ?_)
              · refine rg_new (r := (5, (F 7).toNatClampNeg)) (ci := 5) (fs := [.int 0, .int 0, .int 0, .int 0, .int 0, .int 0, .int 0, .int 0, .null]) hx hb hts hin5 tyX5 tyX5_ok hown (hts (.classLink RX10 15 RX5) (by decide +kernel)) (hts (.instantiable RX5 9) (by decide +kernel)) (hts (.initialized RX5) (by decide +kernel)) hK hP hD hS hA rfl (by decide) (Nat.le_of_ble_eq_true rfl) (Nat.le_of_ble_eq_true rfl) dX10_paper_71 (fun q => al_n5 ((hrl _).mp q)) (fun a2 H h2 hP hD hS => ?_)
                have hw := al_w h2 al_n5
                replace hP := al_P h2 hrl al_n5 (Or.inr (Or.inr (Or.inr (Or.inl rfl)))) hP
                skip
                rw [hw (9, 0) (vd_9 (by decide))] at hl
                replace hP : va_P (dC, dI) vwCl (rx_W (rl ++ [(5, (F 7).toNatClampNeg)]) a2 (ru_ (eC a2 cy F M Y) (5, (F 7).toNatClampNeg) (.inr (5, [.int 0, .int 0, .int 0, .int 0, .int 0, .int 0, .int 0, .int 0, .null])))) H := hP
                replace hD : va_D A (rx_W (rl ++ [(5, (F 7).toNatClampNeg)]) a2 (ru_ (eC a2 cy F M Y) (5, (F 7).toNatClampNeg) (.inr (5, [.int 0, .int 0, .int 0, .int 0, .int 0, .int 0, .int 0, .int 0, .null])))) := rx_D hD
                refine lv_dup hx hb dX10_paper_74 rfl ?_
                refine lv_iload_n hx hb dX10_paper_75 rfl (lv_at hl 1 rfl) ?_
                refine lv_iload_n hx hb dX10_paper_76 rfl (lv_at hl 2 rfl) ?_
                refine lv_iload_n hx hb dX10_paper_77 rfl (lv_at hl 3 rfl) ?_
                refine lv_aload_n hx hb dX10_paper_78 rfl (lv_at hl 0 rfl) ?_
                refine rg_get (D := (dC, dI)) (r := (9, 0)) (ci := 9) (v := .int (F 3)) (C := RX10) (T := TX10) (N := 19) hx hb hts hin10 hown hK hP (List.mem_append_left _ ((hrl _).mpr (vd_9 (by decide)))) ((ru_n (by intro q; cases q)).trans en_9) rfl 0 (by decide) (hts (.fieldLink RX10 65 "SocietyBook" "today" "I") (by decide +kernel)) (fun _ h9 => h9) rfl dX10_paper_79 ?_
                refine va_callv (va_runI (As := [.int p0, .int p1, .int p2, .int (F 3)]) (rest := [.ref (a2 (5, (F 7).toNatClampNeg))]) ⟨hx, hb, hml, hown, hts⟩ (c_X5_init l dC dI (rl ++ [(5, (F 7).toNatClampNeg)]) a2 cy (ru_ (eC a2 cy F M Y) (5, (F 7).toNatClampNeg) (.inr (5, [.int 0, .int 0, .int 0, .int 0, .int 0, .int 0, .int 0, .int 0, .null]))) (5, (F 7).toNatClampNeg) (15, (F 7).toNatClampNeg) p0 p1 p2 (F 3) (List.mem_append_right _ (List.mem_singleton.mpr rfl)) (fun q => (List.mem_append.mp q).elim (fun z => al_n15 ((hrl _).mp z)) (fun z => by have h := List.mem_singleton.mp z; cases h)) ru_s A hD) (cwI 4 hts gX10_paper_X5_init rfl rfl rfl (hts (.initialized RX5) (by decide +kernel)) (hts (.methodLink RX10 94 yX5_init) (by decide +kernel)) (hts (.instanceMethod yX5_init) (by decide +kernel)) rfl (by decide +kernel) ⟨Nat.le_of_ble_eq_true rfl, Nat.le_of_ble_eq_true rfl⟩) ⟨pn_blind, fun U hU hW => ⟨rfl, va_AO.moved hW.alike hO, fun q hq => hA q (Nat.le_trans hS.1 (by rw [← hU]; exact hq)), by rw [hU]; exact hP, va_K.moved hW.alike hK, nst_w hW hN⟩⟩ rfl rfl hl.1 rfl (lv_room (Nat.le_of_ble_eq_true rfl)) dX10_paper_82 ⟨Nat.le_of_ble_eq_true rfl, Nat.le_of_ble_eq_true rfl⟩) hS (fun q _ h => h) (fun q h => h) (fun a3 t H1 locs ht hvm h3 hB hz1 hk1 hS => ?_)
                obtain ⟨⟨hP, -, -⟩, hD⟩ := hB
                rw [ht] at hP
                clear hz1 hk1 ht hvm; generalize H1 = H at hP hS ⊢
                rw [ru_ru] at hP hD
                replace hP := al_P2 h3 hrl al_n15 (Or.inr (Or.inr (Or.inr (Or.inr (Or.inr rfl))))) hP
                have hw3 : ∀ x, ¬ x = (15, (F 7).toNatClampNeg) → a2 x = a3 x := fun x hx => (h3 x hx).symm
                refine W.eq (g2 := F0 m 85 ls (.ref (a3 (5, (F 7).toNatClampNeg)) :: [])) (by rw [hw3 (5, (F 7).toNatClampNeg) (by intro q; cases q)]) ?_
                rw [hw3 (9, 0) (by intro q; cases q)] at hl
                replace hP : va_P (dC, dI) vwCl (rx_W ((rl ++ [(5, (F 7).toNatClampNeg)]) ++ [(15, (F 7).toNatClampNeg)]) a3 (ru_ (ru_ (eC a3 cy F M Y) (5, (F 7).toNatClampNeg) (.inr (5, [.int p0, .int p1, .int p2, .int (F 3), .int (-9), .int (-9), .int (-9), .int (-9), .ref (a3 (15, (F 7).toNatClampNeg))]))) (15, (F 7).toNatClampNeg) (.inl (cy 7, 3, rf_ (fun _ => none))))) H := hP
                replace hD : va_D A (rx_W ((rl ++ [(5, (F 7).toNatClampNeg)]) ++ [(15, (F 7).toNatClampNeg)]) a3 (ru_ (ru_ (eC a3 cy F M Y) (5, (F 7).toNatClampNeg) (.inr (5, [.int p0, .int p1, .int p2, .int (F 3), .int (-9), .int (-9), .int (-9), .int (-9), .ref (a3 (15, (F 7).toNatClampNeg))]))) (15, (F 7).toNatClampNeg) (.inl (cy 7, 3, rf_ (fun _ => none))))) := rx_D hD
                refine lv_astore (lv' := [(6, .ref (a3 (5, (F 7).toNatClampNeg))), (0, .ref (a3 (9, 0))), (1, .int p0), (2, .int p1), (3, .int p2), (4, .int p3), (5, .int p4)]) hx hb dX10_paper_85 hl (by decide) rfl (fun ls hl => ?_)
                refine lv_iload_n hx hb dX10_paper_87 rfl (lv_at hl 2 rfl) ?_
                refine lv_iconst (v := 2) hx hb dX10_paper_88 (by decide) ?_
                refine lv_icmp_ne (tgt := 106) hx hb dX10_paper_89 (by decide) (fun c => absurd c4 c) (fun _ => ?_)
                refine lv_aload hx hb dX10_paper_92 (lv_at hl 0 rfl) ?_
                refine lv_iload hx hb dX10_paper_94 (lv_at hl 5 rfl) ?_
                refine lv_aload_n hx hb dX10_paper_96 rfl (lv_at hl 1 rfl) ?_
                refine rg_get (D := (dC, dI)) (r := (9, 0)) (ci := 9) (v := .ref (a3 (10, 0))) (C := RX10) (T := TX10) (N := 19) hx hb hts hin10 hown hK hP (List.mem_append_left _ (List.mem_append_left _ ((hrl _).mpr (vd_9 (by decide))))) ((ru_n (by intro q; cases q)).trans ((ru_n (by intro q; cases q)).trans en_9)) rfl 2 (by decide) (hts (.fieldLink RX10 11 "SocietyBook" "posts" "[LSocietyBook$Post;") (by decide +kernel)) (fun _ h9 => h9) rfl dX10_paper_97 ?_
                refine lv_iload hx hb dX10_paper_100 (lv_at hl 6 rfl) ?_
                refine rg_aldq (r := (10, 0)) (v := .ref (a3 (6, p4.toNatClampNeg))) hx hb hK hP (List.mem_append_left _ (List.mem_append_left _ ((hrl _).mpr (vd_10 (by decide))))) 2 ((ru_n (by intro q; cases q)).trans ((ru_n (by intro q; cases q)).trans en_10)) rfl (ib_in c7 (by decide)) rfl dX10_paper_102 ?_
                refine va_callv (va_runV (As := [.int p3, .ref (a3 (6, p4.toNatClampNeg))]) (rest := []) ⟨hx, hb, hml, hown, hts⟩ (c_X5_send l dC dI ((rl ++ [(5, (F 7).toNatClampNeg)]) ++ [(15, (F 7).toNatClampNeg)]) a3 cy (ru_ (ru_ (eC a3 cy F M Y) (5, (F 7).toNatClampNeg) (.inr (5, [.int p0, .int p1, .int p2, .int (F 3), .int (-9), .int (-9), .int (-9), .int (-9), .ref (a3 (15, (F 7).toNatClampNeg))]))) (15, (F 7).toNatClampNeg) (.inl (cy 7, 3, rf_ (fun _ => none)))) (5, (F 7).toNatClampNeg) (6, p4.toNatClampNeg) p3 p0 p1 p2 (F 3) (-9) (-9) (-9) (-9) (a3 (15, (F 7).toNatClampNeg)) (M 5 p4.toNatClampNeg) (M 6 p4.toNatClampNeg) (List.mem_append_left _ (List.mem_append_right _ (List.mem_singleton.mpr rfl))) (List.mem_append_left _ (List.mem_append_left _ ((hrl _).mpr (vd_6 (ib_cl (ib_in c7 (by decide))).2)))) ((ru_n (by intro q; cases q)).trans ((ru_n (by intro q; cases q)).trans en_6)) (by intro q; cases q) ((ru_n (by intro q; cases q)).trans ru_s) A hD) (cwV 2 hts gX10_paper_X5_send rfl rfl rfl (by decide +kernel) ⟨Nat.le_of_ble_eq_true rfl, Nat.le_of_ble_eq_true rfl⟩) ⟨pc_blind, rg_recv hK hP (List.mem_append_left _ (List.mem_append_right _ (List.mem_singleton.mpr rfl))) (ci := 5) rfl ((ru_n (by intro q; cases q)).trans ru_s), fun U hU hW => ⟨rfl, by rw [hU]; exact hP, va_K.moved hW.alike hK, nst_w hW hN⟩⟩ rfl rfl hl.1 rfl (lv_room (Nat.le_of_ble_eq_true rfl)) dX10_paper_103 ⟨Nat.le_of_ble_eq_true rfl, Nat.le_of_ble_eq_true rfl⟩) hS (fun q _ h => h) (fun q h => h) (fun u t H1 locs ht hvm hw9 hB hz1 hk1 hS => ?_)
                obtain ⟨⟨hP, -, -⟩, hD⟩ := hB
                rw [ht] at hP
                clear hz1 hk1 ht hvm; generalize H1 = H at hP hS ⊢
                rw [ru_c1 (by intro q; cases q)] at hP hD
                replace hP : va_P (dC, dI) vwCl (rx_W ((rl ++ [(5, (F 7).toNatClampNeg)]) ++ [(15, (F 7).toNatClampNeg)]) a3 (ru_ (ru_ (eC a3 cy F M Y) (5, (F 7).toNatClampNeg) (.inr (5, [.int p0, .int p1, .int p2, .int (F 3), .int p3, .int (p3 + (M 5 p4.toNatClampNeg)), .int (p3 + (M 6 p4.toNatClampNeg)), .int (-9), .ref (a3 (15, (F 7).toNatClampNeg))]))) (15, (F 7).toNatClampNeg) (.inl (cy 7, 3, rf_ (fun _ => none))))) H := hP
                replace hD : va_D A (rx_W ((rl ++ [(5, (F 7).toNatClampNeg)]) ++ [(15, (F 7).toNatClampNeg)]) a3 (ru_ (ru_ (eC a3 cy F M Y) (5, (F 7).toNatClampNeg) (.inr (5, [.int p0, .int p1, .int p2, .int (F 3), .int p3, .int (p3 + (M 5 p4.toNatClampNeg)), .int (p3 + (M 6 p4.toNatClampNeg)), .int (-9), .ref (a3 (15, (F 7).toNatClampNeg))]))) (15, (F 7).toNatClampNeg) (.inl (cy 7, 3, rf_ (fun _ => none))))) := hD
                refine lv_aload_n hx hb dX10_paper_106 rfl (lv_at hl 1 rfl) ?_
                refine rg_get (D := (dC, dI)) (r := (9, 0)) (ci := 9) (v := .ref (a3 (11, 0))) (C := RX10) (T := TX10) (N := 19) hx hb hts hin10 hown hK hP (List.mem_append_left _ (List.mem_append_left _ ((hrl _).mpr (vd_9 (by decide))))) ((ru_n (by intro q; cases q)).trans ((ru_n (by intro q; cases q)).trans en_9)) rfl 3 (by decide) (hts (.fieldLink RX10 17 "SocietyBook" "papers" "[LSocietyBook$Paper;") (by decide +kernel)) (fun _ h9 => h9) rfl dX10_paper_107 ?_
                refine lv_aload_n hx hb dX10_paper_110 rfl (lv_at hl 1 rfl) ?_
                refine rg_get (D := (dC, dI)) (r := (9, 0)) (ci := 9) (v := .int (F 7)) (C := RX10) (T := TX10) (N := 19) hx hb hts hin10 hown hK hP (List.mem_append_left _ (List.mem_append_left _ ((hrl _).mpr (vd_9 (by decide))))) ((ru_n (by intro q; cases q)).trans ((ru_n (by intro q; cases q)).trans en_9)) rfl 4 (by decide) (hts (.fieldLink RX10 91 "SocietyBook" "paperCount" "I") (by decide +kernel)) (fun _ h9 => h9) rfl dX10_paper_111 ?_
                refine lv_aload hx hb dX10_paper_114 (lv_at hl 0 rfl) ?_
                refine rg_astq (r := (11, 0)) (x := (5, (F 7).toNatClampNeg)) hx hb hK hP hD hS (List.mem_append_left _ (List.mem_append_left _ ((hrl _).mpr (vd_11 (by decide))))) 3 5 (List.mem_append_left _ (List.mem_append_right _ (List.mem_singleton.mpr rfl))) ((ru_n (by intro q; cases q)).trans ((ru_n (by intro q; cases q)).trans en_11)) rfl ((ru_n (by intro q; cases q)).trans ru_s) rfl (ib_ct (iv_7 hI) (fu_f (Int32.not_le.mpr c8)) (by decide)) dX10_paper_116 (fun H locs hP hD hS => ?_)
                replace hP : va_P (dC, dI) vwCl (rx_W ((rl ++ [(5, (F 7).toNatClampNeg)]) ++ [(15, (F 7).toNatClampNeg)]) a3 (ru_ (ru_ (ru_ (eC a3 cy F M Y) (5, (F 7).toNatClampNeg) (.inr (5, [.int p0, .int p1, .int p2, .int (F 3), .int p3, .int (p3 + (M 5 p4.toNatClampNeg)), .int (p3 + (M 6 p4.toNatClampNeg)), .int (-9), .ref (a3 (15, (F 7).toNatClampNeg))]))) (15, (F 7).toNatClampNeg) (.inl (cy 7, 3, rf_ (fun _ => none)))) (11, 0) (.inl (cy 3, 24, rf_ (va_up (fun i => if i < (F 7).toNatClampNeg then some (a3 (5, i)) else none) ((F 7).toNatClampNeg) (some (a3 (5, (F 7).toNatClampNeg)))))))) H := hP
                replace hD : va_D A (rx_W ((rl ++ [(5, (F 7).toNatClampNeg)]) ++ [(15, (F 7).toNatClampNeg)]) a3 (ru_ (ru_ (ru_ (eC a3 cy F M Y) (5, (F 7).toNatClampNeg) (.inr (5, [.int p0, .int p1, .int p2, .int (F 3), .int p3, .int (p3 + (M 5 p4.toNatClampNeg)), .int (p3 + (M 6 p4.toNatClampNeg)), .int (-9), .ref (a3 (15, (F 7).toNatClampNeg))]))) (15, (F 7).toNatClampNeg) (.inl (cy 7, 3, rf_ (fun _ => none)))) (11, 0) (.inl (cy 3, 24, rf_ (va_up (fun i => if i < (F 7).toNatClampNeg then some (a3 (5, i)) else none) ((F 7).toNatClampNeg) (some (a3 (5, (F 7).toNatClampNeg)))))))) := hD
                refine lv_aload_n hx hb dX10_paper_117 rfl (lv_at hl 1 rfl) ?_
                refine lv_dup hx hb dX10_paper_118 rfl ?_
                refine rg_get (D := (dC, dI)) (r := (9, 0)) (ci := 9) (v := .int (F 7)) (C := RX10) (T := TX10) (N := 19) hx hb hts hin10 hown hK hP (List.mem_append_left _ (List.mem_append_left _ ((hrl _).mpr (vd_9 (by decide))))) ((ru_n (by intro q; cases q)).trans ((ru_n (by intro q; cases q)).trans ((ru_n (by intro q; cases q)).trans en_9))) rfl 4 (by decide) (hts (.fieldLink RX10 91 "SocietyBook" "paperCount" "I") (by decide +kernel)) (fun _ h9 => h9) rfl dX10_paper_119 ?_
                refine lv_iconst (v := 1) hx hb dX10_paper_122 (by decide) ?_
                refine lv_iadd hx hb dX10_paper_123 ?_
                refine rg_put (D := (dC, dI)) (r := (9, 0)) (ci := 9) (v := .int ((F 7) + 1)) (ty := .int) (C := RX10) (T := TX10) (N := 19) hx hb hts hin10 tyX10 tyX10_ok nmX10 hown hK hP hD hS (List.mem_append_left _ (List.mem_append_left _ ((hrl _).mpr (vd_9 (by decide))))) ((ru_n (by intro q; cases q)).trans ((ru_n (by intro q; cases q)).trans ((ru_n (by intro q; cases q)).trans en_9))) rfl 4 (by decide) (hts (.fieldLink RX10 91 "SocietyBook" "paperCount" "I") (by decide +kernel)) (fun _ h9 => h9) rfl (by decide +kernel) rfl rfl (Nat.le_of_ble_eq_true rfl) dX10_paper_124 (fun H locs hP hD hS => ?_)
                replace hP : va_P (dC, dI) vwCl (rx_W ((rl ++ [(5, (F 7).toNatClampNeg)]) ++ [(15, (F 7).toNatClampNeg)]) a3 (ru_ (ru_ (ru_ (ru_ (eC a3 cy F M Y) (5, (F 7).toNatClampNeg) (.inr (5, [.int p0, .int p1, .int p2, .int (F 3), .int p3, .int (p3 + (M 5 p4.toNatClampNeg)), .int (p3 + (M 6 p4.toNatClampNeg)), .int (-9), .ref (a3 (15, (F 7).toNatClampNeg))]))) (15, (F 7).toNatClampNeg) (.inl (cy 7, 3, rf_ (fun _ => none)))) (11, 0) (.inl (cy 3, 24, rf_ (va_up (fun i => if i < (F 7).toNatClampNeg then some (a3 (5, i)) else none) ((F 7).toNatClampNeg) (some (a3 (5, (F 7).toNatClampNeg))))))) (9, 0) (.inr (9, [.int (F 3), .int (F 4), .ref (a3 (10, 0)), .ref (a3 (11, 0)), .int ((F 7) + 1), .int (F 16), .ref (a3 (12, 0)), .int (F 21), .ref (a3 (13, 0)), .int (F 25), .ref (a3 (14, 0)), .int (F 32), .ref (a3 (16, 0)), .int (F 38), .ref (a3 (2, 0)), .ref (a3 (17, 0)), .int (F 2), .int (F 0), .ref (a3 (18, 0))])))) H := hP
                replace hD : va_D A (rx_W ((rl ++ [(5, (F 7).toNatClampNeg)]) ++ [(15, (F 7).toNatClampNeg)]) a3 (ru_ (ru_ (ru_ (ru_ (eC a3 cy F M Y) (5, (F 7).toNatClampNeg) (.inr (5, [.int p0, .int p1, .int p2, .int (F 3), .int p3, .int (p3 + (M 5 p4.toNatClampNeg)), .int (p3 + (M 6 p4.toNatClampNeg)), .int (-9), .ref (a3 (15, (F 7).toNatClampNeg))]))) (15, (F 7).toNatClampNeg) (.inl (cy 7, 3, rf_ (fun _ => none)))) (11, 0) (.inl (cy 3, 24, rf_ (va_up (fun i => if i < (F 7).toNatClampNeg then some (a3 (5, i)) else none) ((F 7).toNatClampNeg) (some (a3 (5, (F 7).toNatClampNeg))))))) (9, 0) (.inr (9, [.int (F 3), .int (F 4), .ref (a3 (10, 0)), .ref (a3 (11, 0)), .int ((F 7) + 1), .int (F 16), .ref (a3 (12, 0)), .int (F 21), .ref (a3 (13, 0)), .int (F 25), .ref (a3 (14, 0)), .int (F 32), .ref (a3 (16, 0)), .int (F 38), .ref (a3 (2, 0)), .ref (a3 (17, 0)), .int (F 2), .int (F 0), .ref (a3 (18, 0))])))) := hD
                refine lv_aload_n hx hb dX10_paper_127 rfl (lv_at hl 1 rfl) ?_
                refine rg_get (D := (dC, dI)) (r := (9, 0)) (ci := 9) (v := .int ((F 7) + 1)) (C := RX10) (T := TX10) (N := 19) hx hb hts hin10 hown hK hP (List.mem_append_left _ (List.mem_append_left _ ((hrl _).mpr (vd_9 (by decide))))) ru_s rfl 4 (by decide) (hts (.fieldLink RX10 91 "SocietyBook" "paperCount" "I") (by decide +kernel)) (fun _ h9 => h9) rfl dX10_paper_128 ?_
                refine lv_iconst (v := 1) hx hb dX10_paper_131 (by decide) ?_
                refine lv_isub hx hb dX10_paper_132 ?_
                have E9 : s_X11_paper F M p0 p1 p2 p3 p4 = (((F 7) + 1) - 1, (va_up F 7 ((F 7) + 1), va_up (va_up (va_up (va_up (va_up (va_up (va_up (va_up M 8 (upd (M 8) ((F 7).toNatClampNeg) p0)) 9 (upd (M 9) ((F 7).toNatClampNeg) p1)) 10 (upd (M 10) ((F 7).toNatClampNeg) p2)) 11 (upd (M 11) ((F 7).toNatClampNeg) (F 3))) 15 (upd (M 15) ((F 7).toNatClampNeg) (-9))) 12 (upd (M 12) ((F 7).toNatClampNeg) p3)) 13 (upd (M 13) ((F 7).toNatClampNeg) (p3 + ((M 5) p4.toNatClampNeg)))) 14 (upd (M 14) ((F 7).toNatClampNeg) (p3 + ((M 6) p4.toNatClampNeg))))) := by unfold s_X11_paper; rw [if_pos c1]; rw [if_pos c2]; rw [if_pos c3]; rw [if_pos c4]; rw [if_pos c6]; rw [if_pos c7]; rw [if_neg (fu_f (Int32.not_le.mpr c8))]; rw [Int32.add_sub_cancel]
                have hv9 := al_v5 hrl (ib_ct (iv_7 hI) (fu_f (Int32.not_le.mpr c8)) (by decide))
                replace hP : va_P (dC, dI) vwCl (rx_W ((rl ++ [(5, (F 7).toNatClampNeg)]) ++ [(15, (F 7).toNatClampNeg)]) a3 (eC a3 cy (va_up F 7 ((F 7) + 1)) (va_up (va_up (va_up (va_up (va_up (va_up (va_up (va_up M 8 (upd (M 8) ((F 7).toNatClampNeg) p0)) 9 (upd (M 9) ((F 7).toNatClampNeg) p1)) 10 (upd (M 10) ((F 7).toNatClampNeg) p2)) 11 (upd (M 11) ((F 7).toNatClampNeg) (F 3))) 15 (upd (M 15) ((F 7).toNatClampNeg) (-9))) 12 (upd (M 12) ((F 7).toNatClampNeg) p3)) 13 (upd (M 13) ((F 7).toNatClampNeg) (p3 + ((M 5) p4.toNatClampNeg)))) 14 (upd (M 14) ((F 7).toNatClampNeg) (p3 + ((M 6) p4.toNatClampNeg)))) Y)) H := by rw [← rx_cong (fun r hr => al_e5 a3 cy F M Y p0 p1 p2 p3 (p3 + M 5 p4.toNatClampNeg) (p3 + M 6 p4.toNatClampNeg) (p3 + M 5 p4.toNatClampNeg) (p3 + M 6 p4.toNatClampNeg) hJ (ib_ct (iv_7 hI) (fu_f (Int32.not_le.mpr c8)) (by decide)) (if_pos c4) (if_pos c4) r ((hv9 r).mp hr))]; exact hP
                replace hD : va_D A (rx_W ((rl ++ [(5, (F 7).toNatClampNeg)]) ++ [(15, (F 7).toNatClampNeg)]) a3 (eC a3 cy (va_up F 7 ((F 7) + 1)) (va_up (va_up (va_up (va_up (va_up (va_up (va_up (va_up M 8 (upd (M 8) ((F 7).toNatClampNeg) p0)) 9 (upd (M 9) ((F 7).toNatClampNeg) p1)) 10 (upd (M 10) ((F 7).toNatClampNeg) p2)) 11 (upd (M 11) ((F 7).toNatClampNeg) (F 3))) 15 (upd (M 15) ((F 7).toNatClampNeg) (-9))) 12 (upd (M 12) ((F 7).toNatClampNeg) p3)) 13 (upd (M 13) ((F 7).toNatClampNeg) (p3 + ((M 5) p4.toNatClampNeg)))) 14 (upd (M 14) ((F 7).toNatClampNeg) (p3 + ((M 6) p4.toNatClampNeg)))) Y)) := rx_D hD
                exact W.iret (v := ((F 7) + 1) - 1) hx hb hr (fun t ht hW => ⟨⟨((F 7) + 1) - 1, (a3, (rl ++ [(5, (F 7).toNatClampNeg)]) ++ [(15, (F 7).toNatClampNeg)], Y), rfl, by rw [E9], by rw [E9]; exact ⟨⟨⟨by rw [ht]; exact hP, va_K.moved hW.alike hK, nst_w hW hN⟩, hD⟩, hv9, ((h3 _ (by intro q; cases q)).trans (hw _ (vd_9 (by decide))).symm)⟩⟩, hS.F ht⟩) hS.2.2 dX10_paper_133
              · refine lv_bipush (v := (-2)) hx hb dX10_paper_68 (by decide) ?_
                have E9 : s_X11_paper F M p0 p1 p2 p3 p4 = ((-2), (F, M)) := by unfold s_X11_paper; rw [if_pos c1]; rw [if_pos c2]; rw [if_pos c3]; rw [if_pos c4]; rw [if_pos c6]; rw [if_pos c7]; rw [if_pos (fu_t (iv_7 hI) (Int32.not_lt.mp c8))]
                refine W.widen (k := 2) (n := 12) (Nat.le_of_ble_eq_true rfl) (Nat.le_of_ble_eq_true rfl) ?_
                exact W.iret (v := (-2)) hx hb hr (fun t ht hW => ⟨⟨(-2), (ad, rl, Y), rfl, by rw [E9], by rw [E9]; exact ⟨⟨⟨by rw [ht]; exact hP, va_K.moved hW.alike hK, nst_w hW hN⟩, hD⟩, hrl, rfl⟩⟩, hS.F ht⟩) hS.2.2 dX10_paper_70
            · replace c7 := bo_f c7
              refine lv_iconst (v := (-1)) hx hb dX10_paper_57 (by decide) ?_
              have E9 : s_X11_paper F M p0 p1 p2 p3 p4 = ((-1), (F, M)) := by unfold s_X11_paper; rw [if_pos c1]; rw [if_pos c2]; rw [if_pos c3]; rw [if_pos c4]; rw [if_pos c6]; rw [if_neg c7]
              refine W.widen (k := 2) (n := 12) (Nat.le_of_ble_eq_true rfl) (Nat.le_of_ble_eq_true rfl) ?_
              exact W.iret (v := (-1)) hx hb hr (fun t ht hW => ⟨⟨(-1), (ad, rl, Y), rfl, by rw [E9], by rw [E9]; exact ⟨⟨⟨by rw [ht]; exact hP, va_K.moved hW.alike hK, nst_w hW hN⟩, hD⟩, hrl, rfl⟩⟩, hS.F ht⟩) hS.2.2 dX10_paper_58
      · replace c3 := bo_f c3
        refine lv_iconst (v := (-1)) hx hb dX10_paper_27 (by decide) ?_
        have E9 : s_X11_paper F M p0 p1 p2 p3 p4 = ((-1), (F, M)) := by unfold s_X11_paper; rw [if_pos c1]; rw [if_pos c2]; rw [if_neg c3]
        refine W.widen (k := 2) (n := 12) (Nat.le_of_ble_eq_true rfl) (Nat.le_of_ble_eq_true rfl) ?_
        exact W.iret (v := (-1)) hx hb hr (fun t ht hW => ⟨⟨(-1), (ad, rl, Y), rfl, by rw [E9], by rw [E9]; exact ⟨⟨⟨by rw [ht]; exact hP, va_K.moved hW.alike hK, nst_w hW hN⟩, hD⟩, hrl, rfl⟩⟩, hS.F ht⟩) hS.2.2 dX10_paper_28
