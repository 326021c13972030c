
theorem nn_msb {x : Int32} : 0 ≤ x ↔ x.toBitVec.msb = false := by
  rw [ib_le, ib_0]
  show 0 ≤ x.toBitVec.toInt ↔ _
  rw [BitVec.msb_eq_toInt]
  simp
theorem nn_or {x y : Int32} (h1 : 0 ≤ x) (h2 : 0 ≤ y) : 0 ≤ x ||| y := by
  rw [nn_msb] at h1 h2 ⊢
  rw [Int32.toBitVec_or, BitVec.msb_or, h1, h2]
  rfl
theorem nn_sh : ∀ k : Fin 31, 0 ≤ (1 : Int32) <<< (nI k.val &&& 31) := by decide +kernel
theorem nn_pr {f : Nat → Int32} {k : Nat} {x y z : Int32} (h : 0 ≤ x) (hy : 0 ≤ y ∧ y ≤ z - 1) (hz : 0 ≤ z ∧ z ≤ 16) : (0 : Int32) ≤ upd f k (x ||| (1 <<< (y &&& 31))) k := by
  have e : upd f k (x ||| (1 <<< (y &&& 31))) k = x ||| (1 <<< (y &&& 31)) := by simp [upd]
  rw [e]
  have hv : vp_in y 16 := ib_cn hy hz (by decide)
  obtain ⟨m, h1, h2⟩ := vp_in_of hv (by decide)
  rw [h2]
  exact nn_or h (nn_sh ⟨m, by omega⟩)
theorem nn_inF {x : Int32} {n : Nat} (h : x = -9 ∨ ∃ j, j < n ∧ x = nI j) (hne : ¬ x = -9) (hn : n < 2 ^ 31) : 0 ≤ x := by
  rcases h with h | ⟨j, h1, h2⟩
  · exact absurd h hne
  · rw [h2]; exact nI_pos' (by omega)
theorem lo_cong {F F2 : Nat → Int32} {M M2 : Nat → Nat → Int32} (h17 : M2 17 = M 17) (h18 : M2 18 = M 18) (h19 : M2 19 = M 19) (h20 : M2 20 = M 20) (p w k : Int32) : ∀ n, L_lastOf F2 M2 p w k n = L_lastOf F M p w k n := by
  intro n
  induction n with
  | zero => rfl
  | succ n ih => rw [L_lastOf, L_lastOf, ih, h17, h18, h19, h20]
theorem jv_35 {F : Nat → Int32} {M : Nat → Nat → Int32} {f : Nat → Int32} (h : jv F M) : jv F (va_up M 35 f) := by
  have h1 := jv_n h
  have h2 := jv_p h
  have h4 := jv_s h
  have h5 := jv_a h
  have h6 := jv_c h
  have h7 := jv_h h
  have h8 := jv_q h
  have h9 := jv_b h
  refine ⟨h1, h2, ?_, h4, h5, h6, h7, h9, h8⟩
  intro i hi
  rw [lo_cong (F := F) (M := M) (F2 := F) (M2 := va_up M 35 f) rfl rfl rfl rfl, lo_cong (F := F) (M := M) (F2 := F) (M2 := va_up M 35 f) rfl rfl rfl rfl]
  exact jv_r h i hi
theorem ec_tear (ad : Nat × Nat → Nat) (cy : Nat → ClassId) (F : Nat → Int32) (M Y : Nat → Nat → Int32) (j : Nat) (hm : ¬ M 43 j < 0) : ∀ r : Nat × Nat, ru_ (eC ad cy F M Y) (7, j) (.inr (7, [.int 1, .int (if M 43 j < 0 then Y 2 j else M 43 j), .ref (ad (24, j))])) r = eC ad cy F (va_up M 43 (upd (M 43) j (-1))) (va_up Y 2 (upd (Y 2) j (M 43 j))) r := by
  rintro ⟨c, i⟩
  unfold ru_
  by_cases h : (c, i) = (7, j)
  · rw [if_pos h]; cases h
    have e : (-1 : Int32) < 0 := by decide
    simp [eC, va_up, upd, hm, e]
  · rw [if_neg h]
    by_cases hc : c = 7
    · subst hc
      have hne : ¬ i = j := fun q => h (by rw [q])
      simp [eC, va_up, upd, hne]
    · simp [eC, va_up, hc]
theorem ec_ren (ad : Nat × Nat → Nat) (cy : Nat → ClassId) (F : Nat → Int32) (M Y : Nat → Nat → Int32) (j : Nat) (x v : Int32) (hv : ¬ v < 0) : ∀ r : Nat × Nat, ru_ (ru_ (eC ad cy F M Y) (7, j) (.inr (7, [.int 0, .int x, .ref (ad (24, j))]))) (7, j) (.inr (7, [.int 0, .int v, .ref (ad (24, j))])) r = eC ad cy F (va_up M 43 (upd (M 43) j v)) Y r := by
  rintro ⟨c, i⟩
  unfold ru_
  by_cases h : (c, i) = (7, j)
  · rw [if_pos h]; cases h
    simp [eC, va_up, upd, hv]
  · rw [if_neg h, if_neg h]
    by_cases hc : c = 7
    · subst hc
      have hne : ¬ i = j := fun q => h (by rw [q])
      simp [eC, va_up, upd, hne]
    · simp [eC, va_up, hc]

set_option maxHeartbeats 4000000 in
set_option maxRecDepth 100000 in
theorem c_X10_propose (l : Launch) (dC : Nat → ClassId) (dI : Nat → Nat → Nat) (rl : List (Nat × Nat)) (ad : Nat × Nat → Nat) (cy : Nat → ClassId) (F : Nat → Int32) (M Y : Nat → Nat → Int32) (p0 : Int32) (p1 : Int32) (hrl : ∀ r, r ∈ rl ↔ vd F r) (hI : iv F M) (hJ : jv F M) (A : Nat → Prop) (hD : va_D A (rx_W rl ad (eC ad cy F M Y))) : Met l yX10_propose wsX10_propose ({ frames := 2, cells := 0, slots := 0, locals := 43 } : Room) (va_Pc [.ref (ad (9, 0)), .int p0, .int p1] (pC dC dI rl ad cy (eC ad cy F M Y))) (va_Qi (fun r (_ : Nat → Nat → Int32) => r = (s_X11_propose F M p0 p1).1) (qC A dC dI rl ad cy (s_X11_propose F M p0 p1).2.1 (s_X11_propose F M p0 p1).2.2) A) 0 0 A := by
  refine Met.ofW (cc := cX10_propose) (maxL := 4) (ret := (some .int)) (by decide) rfl ?_
  intro p e s m args below meth c s₁ B hml hv
  obtain ⟨rfl, hP, hK, hN⟩ := hv
  have hx := B.exec
  have hb := B.bytes
  have hr := B.returns
  have hts := atoms_spec (ws := wsX10_propose) B.pre
  have hown : s.vm.findClass RX10 = some m.cls := findClass_of_methodNamed B.named
  have hlocks := B.notSynchronized
  have hin1 : ∀ w ∈ wsX10, w ∈ wsX10_propose := by decide +kernel
  have hS : va_S A s.heap s.heap [] := va_S.rf
  have hl := lv_entry ([.ref (ad (9, 0)), .int p0, .int p1]) (n := 4) (Nat.le_of_ble_eq_true rfl)
  rw [lg_entry_eq]
  generalize (lg_sl ([.ref (ad (9, 0)), .int p0, .int p1]) ++ List.replicate (4 - (lg_sl ([.ref (ad (9, 0)), .int p0, .int p1])).length) Slot.unset).toArray = ls at hl ⊢
  have hl : lv_has ls 4 [(0, .ref (ad (9, 0))), (1, .int p0), (2, .int p1)] := hl
  refine lv_aload_n hx hb dX10_propose_0 rfl (lv_at hl 0 rfl) ?_
  refine lv_iload_n hx hb dX10_propose_1 rfl (lv_at hl 1 rfl) ?_
  refine va_csq (W.runV (As := [.int p0]) (rest := []) ⟨hx, hb, hml, hown, hts⟩ (c_X10_candidateAt l dC dI rl ad cy F M Y  p0 hrl hI hJ ) (cwV 1 hts gX10_propose_X10_candidateAt rfl rfl rfl (by decide +kernel) ⟨Nat.le_of_ble_eq_true rfl, Nat.le_of_ble_eq_true rfl⟩) ⟨pc_blind, rg_recv hK hP ((hrl _).mpr (vd_9 (by decide))) (ci := 9) rfl en_9, fun U hU hW => ⟨rfl, by rw [hU]; exact hP, va_K.moved hW.alike hK, nst_w hW hN⟩⟩ rfl rfl hl.1 rfl (lv_room (Nat.le_of_ble_eq_true rfl)) dX10_propose_2 ⟨Nat.zero_le _, Nat.zero_le _⟩) (fun r hr9 => ?_)
  subst hr9
  by_cases c1 : 0 ≤ p0 ∧ p0 ≤ ((F 32) - 1)
  · rw [if_pos c1]
    refine W.eq (g2 := F0 m 5 ls (.ref (ad (1, p0.toNatClampNeg)) :: [])) rfl ?_
    refine lv_astore_n (lv' := [(3, .ref (ad (1, p0.toNatClampNeg))), (0, .ref (ad (9, 0))), (1, .int p0), (2, .int p1)]) hx hb dX10_propose_5 rfl hl (by decide) rfl (fun ls hl => ?_)
    refine lv_aload_n hx hb dX10_propose_6 rfl (lv_at hl 0 rfl) ?_
    refine lv_ifnull hx hb dX10_propose_7 ?_
    refine lv_aload_n hx hb dX10_propose_10 rfl (lv_at hl 1 rfl) ?_
    refine lv_iload_n hx hb dX10_propose_11 rfl (lv_at hl 3 rfl) ?_
    refine vp_callSi (W.runV (As := [.int p1]) (rest := []) ⟨hx, hb, hml, hown, hts⟩ (c_X10_isFellow l dC dI rl ad cy F M Y  p1 hrl hI hJ ) (cwV 1 hts gX10_propose_X10_isFellow rfl rfl rfl (by decide +kernel) ⟨Nat.le_of_ble_eq_true rfl, Nat.le_of_ble_eq_true rfl⟩) ⟨pc_blind, rg_recv hK hP ((hrl _).mpr (vd_9 (by decide))) (ci := 9) rfl en_9, fun U hU hW => ⟨rfl, by rw [hU]; exact hP, va_K.moved hW.alike hK, nst_w hW hN⟩⟩ rfl rfl hl.1 rfl (lv_room (Nat.le_of_ble_eq_true rfl)) dX10_propose_12 ⟨Nat.zero_le _, Nat.zero_le _⟩) (fun r hr9 => ?_)
    subst hr9
    refine lv_if_ne (tgt := 20) hx hb dX10_propose_15 (by decide) (fun c2 => ?_) (fun c2 => ?_)
    · replace c2 := bo_t c2
      refine lv_aload_n hx hb dX10_propose_20 rfl (lv_at hl 0 rfl) ?_
      refine rg_get (D := (dC, dI)) (r := (1, p0.toNatClampNeg)) (ci := 1) (v := .int (M 35 p0.toNatClampNeg)) (C := RX1) (T := TX1) (N := 3) hx hb hts hin1 hown hK hP ((hrl _).mpr (vd_1 (ix_cn c1 (iv_32 hI).1))) en_1 rfl 2 (by decide) (hts (.fieldLink RX10 195 "SocietyBook$Candidate" "missing" "Z") (by decide +kernel)) (fun _ h9 => h9) rfl dX10_propose_21 ?_
      refine lv_if_eq (tgt := 33) hx hb dX10_propose_24 (by decide) (fun c3 => ?_) (fun c3 => ?_)
      · refine lv_aload_n hx hb dX10_propose_33 rfl (lv_at hl 0 rfl) ?_
        refine lv_dup hx hb dX10_propose_34 rfl ?_
        refine rg_get (D := (dC, dI)) (r := (1, p0.toNatClampNeg)) (ci := 1) (v := .int (M 34 p0.toNatClampNeg)) (C := RX1) (T := TX1) (N := 3) hx hb hts hin1 hown hK hP ((hrl _).mpr (vd_1 (ix_cn c1 (iv_32 hI).1))) en_1 rfl 0 (by decide) (hts (.fieldLink RX10 199 "SocietyBook$Candidate" "proposers" "I") (by decide +kernel)) (fun _ h9 => h9) rfl dX10_propose_35 ?_
        refine lv_iconst (v := 1) hx hb dX10_propose_38 (by decide) ?_
        refine lv_iload_n hx hb dX10_propose_39 rfl (lv_at hl 3 rfl) ?_
        refine lv_ishl hx hb dX10_propose_40 ?_
        refine lv_ior hx hb dX10_propose_41 ?_
        refine rg_put (D := (dC, dI)) (r := (1, p0.toNatClampNeg)) (ci := 1) (v := .int ((M 34 p0.toNatClampNeg) ||| (1 <<< (p1 &&& 31)))) (ty := .int) (C := RX1) (T := TX1) (N := 3) hx hb hts hin1 tyX1 tyX1_ok nmX1 hown hK hP hD hS ((hrl _).mpr (vd_1 (ix_cn c1 (iv_32 hI).1))) en_1 rfl 0 (by decide) (hts (.fieldLink RX10 199 "SocietyBook$Candidate" "proposers" "I") (by decide +kernel)) (fun _ h9 => h9) rfl (by decide +kernel) rfl rfl (Nat.le_of_ble_eq_true rfl) dX10_propose_42 (fun H locs hP hD hS => ?_)
        replace hP : va_P (dC, dI) vwCl (rx_W rl ad (eC ad cy F (va_up M 34 (upd (M 34) p0.toNatClampNeg ((M 34 p0.toNatClampNeg) ||| (1 <<< (p1 &&& 31))))) Y)) H := ec_mp (ec_1_0 ad cy F M Y p0.toNatClampNeg ((M 34 p0.toNatClampNeg) ||| (1 <<< (p1 &&& 31)))) hP
        replace hD : va_D A (rx_W rl ad (eC ad cy F (va_up M 34 (upd (M 34) p0.toNatClampNeg ((M 34 p0.toNatClampNeg) ||| (1 <<< (p1 &&& 31))))) Y)) := rx_D hD
        refine lv_aload_n hx hb dX10_propose_45 rfl (lv_at hl 0 rfl) ?_
        refine rg_get (D := (dC, dI)) (r := (1, p0.toNatClampNeg)) (ci := 1) (v := .int ((upd (M 34) p0.toNatClampNeg ((M 34 p0.toNatClampNeg) ||| (1 <<< (p1 &&& 31)))) p0.toNatClampNeg)) (C := RX1) (T := TX1) (N := 3) hx hb hts hin1 hown hK hP ((hrl _).mpr (vd_1 (ix_cn c1 (iv_32 hI).1))) en_1 rfl 0 (by decide) (hts (.fieldLink RX10 199 "SocietyBook$Candidate" "proposers" "I") (by decide +kernel)) (fun _ h9 => h9) rfl dX10_propose_46 ?_
        refine vp_callSi (W.runS (As := [.int ((upd (M 34) p0.toNatClampNeg ((M 34 p0.toNatClampNeg) ||| (1 <<< (p1 &&& 31)))) p0.toNatClampNeg)]) (rest := []) ⟨hx, hb, hml, hown, hts⟩ (c_J6_bitCount_0f7a4 l ((upd (M 34) p0.toNatClampNeg ((M 34 p0.toNatClampNeg) ||| (1 <<< (p1 &&& 31)))) p0.toNatClampNeg)) (va_cwS 1 hts gX10_propose_J6_bitCount_0f7a4 rfl rfl rfl (by decide +kernel) ⟨Nat.le_of_ble_eq_true rfl, Nat.le_of_ble_eq_true rfl⟩) ⟨fun _ _ _ _ q => q, fun U hU hW => ⟨rfl, trivial⟩⟩ rfl rfl hl.1 rfl (lv_room (Nat.le_of_ble_eq_true rfl)) dX10_propose_49 ⟨Nat.zero_le _, Nat.zero_le _⟩) (fun r hr9 => ?_)
        subst hr9
        rw [bc_eq (x := (upd (M 34) p0.toNatClampNeg ((M 34 p0.toNatClampNeg) ||| (1 <<< (p1 &&& 31)))) p0.toNatClampNeg) (nn_pr (jv_c hJ _ (ix_cn c1 (iv_32 hI).1)).1 c2 (iv_4 hI))]
        have E9 : s_X11_propose F M p0 p1 = (s_X11_bitsOf ((upd (M 34) p0.toNatClampNeg ((M 34 p0.toNatClampNeg) ||| (1 <<< (p1 &&& 31)))) p0.toNatClampNeg), (F, va_up M 34 (upd (M 34) p0.toNatClampNeg ((M 34 p0.toNatClampNeg) ||| (1 <<< (p1 &&& 31)))))) := by (have hn9 : s_X11_need F M (if 0 ≤ p1 ∧ p1 ≤ ((F 4) - 1) then (1 : Int32) else 0) p0 = (0, (F, M)) := by unfold s_X11_need; rw [if_pos c1, if_pos c2, if_neg (show ¬ (1 : Int32) = 0 by decide), if_pos c3]); unfold s_X11_propose; rw [hn9]; exact if_pos (show (0 : Int32) ≤ 0 by decide)
        exact W.iret (v := s_X11_bitsOf ((upd (M 34) p0.toNatClampNeg ((M 34 p0.toNatClampNeg) ||| (1 <<< (p1 &&& 31)))) p0.toNatClampNeg)) hx hb hr (fun t ht hW => ⟨⟨s_X11_bitsOf ((upd (M 34) p0.toNatClampNeg ((M 34 p0.toNatClampNeg) ||| (1 <<< (p1 &&& 31)))) p0.toNatClampNeg), Y, rfl, by rw [E9], by rw [E9]; exact ⟨⟨by rw [ht]; exact hP, va_K.moved hW.alike hK, nst_w hW hN⟩, hD⟩⟩, hS.F ht⟩) hS.2.2 dX10_propose_52
      · refine lv_aload_n hx hb dX10_propose_27 rfl (lv_at hl 1 rfl) ?_
        refine lv_iconst (v := 1) hx hb dX10_propose_28 (by decide) ?_
        refine va_calli (va_runV (As := [.int 1]) (rest := []) ⟨hx, hb, hml, hown, hts⟩ (c_X10_found l dC dI rl ad cy F M Y  1 hrl hI hJ A hD (ib_lit (by decide))) (cwV 1 hts gX10_propose_X10_found rfl rfl rfl (by decide +kernel) ⟨Nat.le_of_ble_eq_true rfl, Nat.le_of_ble_eq_true rfl⟩) ⟨pc_blind, rg_recv hK hP ((hrl _).mpr (vd_9 (by decide))) (ci := 9) rfl en_9, fun U hU hW => ⟨rfl, by rw [hU]; exact hP, va_K.moved hW.alike hK, nst_w hW hN⟩⟩ rfl rfl hl.1 rfl (lv_room (Nat.le_of_ble_eq_true rfl)) dX10_propose_29 ⟨Nat.zero_le _, Nat.zero_le _⟩) hS (fun q _ h => h) (fun q h => h) (fun r u t H1 locs ht hvm hw hB hz1 hk1 hS => ?_)
        subst hw
        obtain ⟨⟨hP, -, -⟩, hD⟩ := hB
        rw [ht] at hP
        clear hz1 hk1 ht hvm; generalize H1 = H at hP hS ⊢
        skip
        have E9 : s_X11_propose F M p0 p1 = ((s_X11_meets F M 1).1, ((s_X11_meets F M 1).2.1, (s_X11_meets F M 1).2.2)) := by (have hn9 : s_X11_need F M (if 0 ≤ p1 ∧ p1 ≤ ((F 4) - 1) then (1 : Int32) else 0) p0 = ((s_X11_meets F M 1).1, ((s_X11_meets F M 1).2.1, (s_X11_meets F M 1).2.2)) := by unfold s_X11_need; rw [if_pos c1, if_pos c2, if_neg (show ¬ (1 : Int32) = 0 by decide), if_neg c3]); unfold s_X11_propose; rw [hn9]; exact if_neg (show ¬ (0 : Int32) ≤ -3 by decide)
        exact W.iret (v := (s_X11_meets F M 1).1) hx hb hr (fun t ht hW => ⟨⟨(s_X11_meets F M 1).1, u, rfl, by rw [E9], by rw [E9]; exact ⟨⟨by rw [ht]; exact hP, va_K.moved hW.alike hK, nst_w hW hN⟩, hD⟩⟩, hS.F ht⟩) hS.2.2 dX10_propose_32
    · replace c2 := bo_f c2
      refine lv_iconst (v := (-1)) hx hb dX10_propose_18 (by decide) ?_
      have E9 : s_X11_propose F M p0 p1 = ((-1), (F, M)) := by (have hn9 : s_X11_need F M (if 0 ≤ p1 ∧ p1 ≤ ((F 4) - 1) then (1 : Int32) else 0) p0 = ((-1), (F, M)) := by unfold s_X11_need; rw [if_pos c1, if_neg c2, if_pos rfl]); unfold s_X11_propose; rw [hn9]; exact if_neg (show ¬ (0 : Int32) ≤ -1 by decide)
      exact W.iret (v := (-1)) hx hb hr (fun t ht hW => ⟨⟨(-1), Y, rfl, by rw [E9], by rw [E9]; exact ⟨⟨by rw [ht]; exact hP, va_K.moved hW.alike hK, nst_w hW hN⟩, hD⟩⟩, hS.F ht⟩) hS.2.2 dX10_propose_19
  · rw [if_neg c1]
    refine W.eq (g2 := F0 m 5 ls (.null :: [])) rfl ?_
    refine lv_astore_nN (lv' := [(3, .null), (0, .ref (ad (9, 0))), (1, .int p0), (2, .int p1)]) hx hb dX10_propose_5 rfl hl (by decide) rfl (fun ls hl => ?_)
    refine lv_aload_nN hx hb dX10_propose_6 rfl (lv_at hl 0 rfl) ?_
    refine lv_ifnullN (tgt := 18) hx hb dX10_propose_7 (by decide) ?_
    refine lv_iconst (v := (-1)) hx hb dX10_propose_18 (by decide) ?_
    have E9 : s_X11_propose F M p0 p1 = ((-1), (F, M)) := by (have hn9 : s_X11_need F M (if 0 ≤ p1 ∧ p1 ≤ ((F 4) - 1) then (1 : Int32) else 0) p0 = ((-1), (F, M)) := by unfold s_X11_need; rw [if_neg c1]); unfold s_X11_propose; rw [hn9]; exact if_neg (show ¬ (0 : Int32) ≤ -1 by decide)
    exact W.iret (v := (-1)) hx hb hr (fun t ht hW => ⟨⟨(-1), Y, rfl, by rw [E9], by rw [E9]; exact ⟨⟨by rw [ht]; exact hP, va_K.moved hW.alike hK, nst_w hW hN⟩, hD⟩⟩, hS.F ht⟩) hS.2.2 dX10_propose_19

set_option maxHeartbeats 4000000 in
set_option maxRecDepth 100000 in
theorem c_X0_outcome (l : Launch) (dC : Nat → ClassId) (dI : Nat → Nat → Nat) (rl : List (Nat × Nat)) (ad : Nat × Nat → Nat) (cy : Nat → ClassId) (F : Nat → Int32) (M Y : Nat → Nat → Int32) (j : Nat) (i : Nat) (p0 : Int32) (p1 : Int32) (hrl : ∀ r, r ∈ rl ↔ vd F r) (hI : iv F M) (hJ : jv F M) (hj : j < (F 25).toNatClampNeg) (hi : i < (F 32).toNatClampNeg) : Met l yX0_outcome wsX0_outcome ({ frames := 1, cells := 0, slots := 0, locals := 20 } : Room) (va_Pc [.ref (ad (0, j)), .ref (ad (1, i)), .int (F 3), .int p0, .int p1] (pC dC dI rl ad cy (eC ad cy F M Y))) (vp_Si (fun r => r = (s_X11_bars F M (nI i) (nI j) p0 p1))) 0 0 (fun _ => False) := by
  refine Met.ofW (cc := cX0_outcome) (maxL := 6) (ret := (some .int)) (by decide) rfl ?_
  intro p e s m args below meth c s₁ B hml hv
  obtain ⟨rfl, hP, hK, hN⟩ := hv
  have hx := B.exec
  have hb := B.bytes
  have hr := B.returns
  have hts := atoms_spec (ws := wsX0_outcome) B.pre
  have hown : s.vm.findClass RX0 = some m.cls := findClass_of_methodNamed B.named
  have hlocks := B.notSynchronized
  have hin0 : ∀ w ∈ wsX00, w ∈ wsX0_outcome := by decide +kernel
  have hin1 : ∀ w ∈ wsX10, w ∈ wsX0_outcome := by decide +kernel
  have hl := lv_entry ([.ref (ad (0, j)), .ref (ad (1, i)), .int (F 3), .int p0, .int p1]) (n := 6) (Nat.le_of_ble_eq_true rfl)
  rw [lg_entry_eq]
  generalize (lg_sl ([.ref (ad (0, j)), .ref (ad (1, i)), .int (F 3), .int p0, .int p1]) ++ List.replicate (6 - (lg_sl ([.ref (ad (0, j)), .ref (ad (1, i)), .int (F 3), .int p0, .int p1])).length) Slot.unset).toArray = ls at hl ⊢
  have hl : lv_has ls 6 [(0, .ref (ad (0, j))), (1, .ref (ad (1, i))), (2, .int (F 3)), (3, .int p0), (4, .int p1)] := hl
  have hn25 : (F 25).toNatClampNeg ≤ 12 := lb_le (iv_25 hI) (by decide)
  have hn32 : (F 32).toNatClampNeg ≤ 20 := lb_le (iv_32 hI) (by decide)
  have hjc : (nI j).toNatClampNeg = j := nI_clamp (by omega)
  have hic : (nI i).toNatClampNeg = i := nI_clamp (by omega)
  refine lv_iload_n hx hb dX0_outcome_0 rfl (lv_at hl 2 rfl) ?_
  refine lv_aload_n hx hb dX0_outcome_1 rfl (lv_at hl 1 rfl) ?_
  refine rg_get (D := (dC, dI)) (r := (1, i)) (ci := 1) (v := .int (M 33 i)) (C := RX1) (T := TX1) (N := 3) hx hb hts hin1 hown hK hP ((hrl _).mpr (vd_1 hi)) en_1 rfl 1 (by decide) (hts (.fieldLink RX0 27 "SocietyBook$Candidate" "hungOn" "I") (by decide +kernel)) (fun _ h9 => h9) rfl dX0_outcome_2 ?_
  refine lv_isub hx hb dX0_outcome_5 ?_
  refine lv_aload_n hx hb dX0_outcome_6 rfl (lv_at hl 0 rfl) ?_
  refine rg_get (D := (dC, dI)) (r := (0, j)) (ci := 0) (v := .int (M 27 j)) (C := RX0) (T := TX0) (N := 6) hx hb hts hin0 hown hK hP ((hrl _).mpr (vd_0 hj)) en_0 rfl 1 (by decide) (hts (.fieldLink RX0 9 "SocietyBook$Byelaw" "hangs" "I") (by decide +kernel)) (fun _ h9 => h9) rfl dX0_outcome_7 ?_
  refine lv_icmp_ge (tgt := 15) hx hb dX0_outcome_10 (by decide) (fun c1 => ?_) (fun c1 => ?_)
  · refine lv_aload_n hx hb dX0_outcome_15 rfl (lv_at hl 1 rfl) ?_
    refine rg_get (D := (dC, dI)) (r := (1, i)) (ci := 1) (v := .int (M 34 i)) (C := RX1) (T := TX1) (N := 3) hx hb hts hin1 hown hK hP ((hrl _).mpr (vd_1 hi)) en_1 rfl 0 (by decide) (hts (.fieldLink RX0 32 "SocietyBook$Candidate" "proposers" "I") (by decide +kernel)) (fun _ h9 => h9) rfl dX0_outcome_16 ?_
    refine vp_callSi (W.runS (As := [.int (M 34 i)]) (rest := []) ⟨hx, hb, hml, hown, hts⟩ (c_J6_bitCount_0f7a4 l (M 34 i)) (va_cwS 1 hts gX0_outcome_J6_bitCount_0f7a4 rfl rfl rfl (by decide +kernel) ⟨Nat.le_of_ble_eq_true rfl, Nat.le_of_ble_eq_true rfl⟩) ⟨fun _ _ _ _ q => q, fun U hU hW => ⟨rfl, trivial⟩⟩ rfl rfl hl.1 rfl (lv_room (Nat.le_of_ble_eq_true rfl)) dX0_outcome_19 ⟨Nat.zero_le _, Nat.zero_le _⟩) (fun r hr9 => ?_)
    subst hr9
    rw [bc_eq (x := M 34 i) (jv_c hJ _ hi).1]
    refine lv_aload_n hx hb dX0_outcome_22 rfl (lv_at hl 0 rfl) ?_
    refine rg_get (D := (dC, dI)) (r := (0, j)) (ci := 0) (v := .int (M 28 j)) (C := RX0) (T := TX0) (N := 6) hx hb hts hin0 hown hK hP ((hrl _).mpr (vd_0 hj)) en_0 rfl 2 (by decide) (hts (.fieldLink RX0 15 "SocietyBook$Byelaw" "leastProposers" "I") (by decide +kernel)) (fun _ h9 => h9) rfl dX0_outcome_23 ?_
    refine lv_icmp_ge (tgt := 31) hx hb dX0_outcome_26 (by decide) (fun c2 => ?_) (fun c2 => ?_)
    · refine lv_iload hx hb dX0_outcome_31 (lv_at hl 4 rfl) ?_
      refine lv_aload_n hx hb dX0_outcome_33 rfl (lv_at hl 0 rfl) ?_
      refine rg_get (D := (dC, dI)) (r := (0, j)) (ci := 0) (v := .int (M 29 j)) (C := RX0) (T := TX0) (N := 6) hx hb hts hin0 hown hK hP ((hrl _).mpr (vd_0 hj)) en_0 rfl 3 (by decide) (hts (.fieldLink RX0 18 "SocietyBook$Byelaw" "mostBlack" "I") (by decide +kernel)) (fun _ h9 => h9) rfl dX0_outcome_34 ?_
      refine lv_icmp_le (tgt := 42) hx hb dX0_outcome_37 (by decide) (fun c3 => ?_) (fun c3 => ?_)
      · refine lv_iload_n hx hb dX0_outcome_42 rfl (lv_at hl 3 rfl) ?_
        refine lv_iload hx hb dX0_outcome_43 (lv_at hl 4 rfl) ?_
        refine lv_iadd hx hb dX0_outcome_45 ?_
        refine lv_istore (lv' := [(5, .int (p0 + p1)), (0, .ref (ad (0, j))), (1, .ref (ad (1, i))), (2, .int (F 3)), (3, .int p0), (4, .int p1)]) hx hb dX0_outcome_46 hl (by decide) rfl (fun ls hl => ?_)
        refine lv_iload hx hb dX0_outcome_48 (lv_at hl 0 rfl) ?_
        refine lv_if_eq (tgt := 69) hx hb dX0_outcome_50 (by decide) (fun c4 => ?_) (fun c4 => ?_)
        · refine lv_iconst (v := 5) hx hb dX0_outcome_69 (by decide) ?_
          exact W.iret (v := 5) hx hb hr (fun t ht hW => ⟨5, rfl, by unfold s_X11_bars; rw [hic, hjc]; rw [if_pos c1]; rw [if_pos c2]; rw [if_pos c3]; rw [if_pos c4], ht⟩) (fun _ h => by cases h) dX0_outcome_70
        · refine lv_iload_n hx hb dX0_outcome_53 rfl (lv_at hl 4 rfl) ?_
          refine lv_aload_n hx hb dX0_outcome_54 rfl (lv_at hl 1 rfl) ?_
          refine rg_get (D := (dC, dI)) (r := (0, j)) (ci := 0) (v := .int (M 31 j)) (C := RX0) (T := TX0) (N := 6) hx hb hts hin0 hown hK hP ((hrl _).mpr (vd_0 hj)) en_0 rfl 5 (by decide) (hts (.fieldLink RX0 24 "SocietyBook$Byelaw" "allParts" "I") (by decide +kernel)) (fun _ h9 => h9) rfl dX0_outcome_55 ?_
          refine lv_imul hx hb dX0_outcome_58 ?_
          refine lv_aload_n hx hb dX0_outcome_59 rfl (lv_at hl 1 rfl) ?_
          refine rg_get (D := (dC, dI)) (r := (0, j)) (ci := 0) (v := .int (M 30 j)) (C := RX0) (T := TX0) (N := 6) hx hb hts hin0 hown hK hP ((hrl _).mpr (vd_0 hj)) en_0 rfl 4 (by decide) (hts (.fieldLink RX0 21 "SocietyBook$Byelaw" "whiteParts" "I") (by decide +kernel)) (fun _ h9 => h9) rfl dX0_outcome_60 ?_
          refine lv_iload hx hb dX0_outcome_63 (lv_at hl 0 rfl) ?_
          refine lv_imul hx hb dX0_outcome_65 ?_
          refine lv_icmp_ge (tgt := 71) hx hb dX0_outcome_66 (by decide) (fun c5 => ?_) (fun c5 => ?_)
          · refine lv_iconst (v := 1) hx hb dX0_outcome_71 (by decide) ?_
            exact W.iret (v := 1) hx hb hr (fun t ht hW => ⟨1, rfl, by unfold s_X11_bars; rw [hic, hjc]; rw [if_pos c1]; rw [if_pos c2]; rw [if_pos c3]; rw [if_neg c4]; rw [if_pos c5], ht⟩) (fun _ h => by cases h) dX0_outcome_72
          · refine lv_iconst (v := 5) hx hb dX0_outcome_69 (by decide) ?_
            exact W.iret (v := 5) hx hb hr (fun t ht hW => ⟨5, rfl, by unfold s_X11_bars; rw [hic, hjc]; rw [if_pos c1]; rw [if_pos c2]; rw [if_pos c3]; rw [if_neg c4]; rw [if_neg c5], ht⟩) (fun _ h => by cases h) dX0_outcome_70
      · refine lv_iconst (v := 4) hx hb dX0_outcome_40 (by decide) ?_
        exact W.iret (v := 4) hx hb hr (fun t ht hW => ⟨4, rfl, by unfold s_X11_bars; rw [hic, hjc]; rw [if_pos c1]; rw [if_pos c2]; rw [if_neg c3], ht⟩) (fun _ h => by cases h) dX0_outcome_41
    · refine lv_iconst (v := 3) hx hb dX0_outcome_29 (by decide) ?_
      exact W.iret (v := 3) hx hb hr (fun t ht hW => ⟨3, rfl, by unfold s_X11_bars; rw [hic, hjc]; rw [if_pos c1]; rw [if_neg c2], ht⟩) (fun _ h => by cases h) dX0_outcome_30
  · refine lv_iconst (v := 2) hx hb dX0_outcome_13 (by decide) ?_
    exact W.iret (v := 2) hx hb hr (fun t ht hW => ⟨2, rfl, by unfold s_X11_bars; rw [hic, hjc]; rw [if_neg c1], ht⟩) (fun _ h => by cases h) dX0_outcome_14

set_option maxHeartbeats 4000000 in
set_option maxRecDepth 100000 in
theorem c_X10_ballot (l : Launch) (dC : Nat → ClassId) (dI : Nat → Nat → Nat) (rl : List (Nat × Nat)) (ad : Nat × Nat → Nat) (cy : Nat → ClassId) (F : Nat → Int32) (M Y : Nat → Nat → Int32) (p0 : Int32) (p1 : Int32) (p2 : Int32) (hrl : ∀ r, r ∈ rl ↔ vd F r) (hI : iv F M) (hJ : jv F M) (A : Nat → Prop) (hD : va_D A (rx_W rl ad (eC ad cy F M Y))) : Met l yX10_ballot wsX10_ballot ({ frames := 2, cells := 0, slots := 0, locals := 45 } : Room) (va_Pc [.ref (ad (9, 0)), .int p0, .int p1, .int p2] (pC dC dI rl ad cy (eC ad cy F M Y))) (va_Qi (fun r (_ : Nat → Nat → Int32) => r = (s_X11_ballot F M p0 p1 p2).1) (qC A dC dI rl ad cy (s_X11_ballot F M p0 p1 p2).2.1 (s_X11_ballot F M p0 p1 p2).2.2) A) 0 0 A := by
  refine Met.ofW (cc := cX10_ballot) (maxL := 7) (ret := (some .int)) (by decide) rfl ?_
  intro p e s m args below meth c s₁ B hml hv
  obtain ⟨rfl, hP, hK, hN⟩ := hv
  have hx := B.exec
  have hb := B.bytes
  have hr := B.returns
  have hts := atoms_spec (ws := wsX10_ballot) B.pre
  have hown : s.vm.findClass RX10 = some m.cls := findClass_of_methodNamed B.named
  have hlocks := B.notSynchronized
  have hin1 : ∀ w ∈ wsX10, w ∈ wsX10_ballot := by decide +kernel
  have hin10 : ∀ w ∈ wsX100, w ∈ wsX10_ballot := by decide +kernel
  have hS : va_S A s.heap s.heap [] := va_S.rf
  have hl := lv_entry ([.ref (ad (9, 0)), .int p0, .int p1, .int p2]) (n := 7) (Nat.le_of_ble_eq_true rfl)
  rw [lg_entry_eq]
  generalize (lg_sl ([.ref (ad (9, 0)), .int p0, .int p1, .int p2]) ++ List.replicate (7 - (lg_sl ([.ref (ad (9, 0)), .int p0, .int p1, .int p2])).length) Slot.unset).toArray = ls at hl ⊢
  have hl : lv_has ls 7 [(0, .ref (ad (9, 0))), (1, .int p0), (2, .int p1), (3, .int p2)] := hl
  have hn25 : (F 25).toNatClampNeg ≤ 12 := lb_le (iv_25 hI) (by decide)
  refine lv_aload_n hx hb dX10_ballot_0 rfl (lv_at hl 0 rfl) ?_
  refine lv_iload_n hx hb dX10_ballot_1 rfl (lv_at hl 1 rfl) ?_
  refine va_csq (W.runV (As := [.int p0]) (rest := []) ⟨hx, hb, hml, hown, hts⟩ (c_X10_candidateAt l dC dI rl ad cy F M Y  p0 hrl hI hJ ) (cwV 1 hts gX10_ballot_X10_candidateAt rfl rfl rfl (by decide +kernel) ⟨Nat.le_of_ble_eq_true rfl, Nat.le_of_ble_eq_true rfl⟩) ⟨pc_blind, rg_recv hK hP ((hrl _).mpr (vd_9 (by decide))) (ci := 9) rfl en_9, fun U hU hW => ⟨rfl, by rw [hU]; exact hP, va_K.moved hW.alike hK, nst_w hW hN⟩⟩ rfl rfl hl.1 rfl (lv_room (Nat.le_of_ble_eq_true rfl)) dX10_ballot_2 ⟨Nat.zero_le _, Nat.zero_le _⟩) (fun r hr9 => ?_)
  subst hr9
  by_cases c1 : 0 ≤ p0 ∧ p0 ≤ ((F 32) - 1)
  · rw [if_pos c1]
    refine W.eq (g2 := F0 m 5 ls (.ref (ad (1, p0.toNatClampNeg)) :: [])) rfl ?_
    refine lv_astore (lv' := [(4, .ref (ad (1, p0.toNatClampNeg))), (0, .ref (ad (9, 0))), (1, .int p0), (2, .int p1), (3, .int p2)]) hx hb dX10_ballot_5 hl (by decide) rfl (fun ls hl => ?_)
    refine lv_aload hx hb dX10_ballot_7 (lv_at hl 0 rfl) ?_
    refine lv_ifnull hx hb dX10_ballot_9 ?_
    refine lv_iload_n hx hb dX10_ballot_12 rfl (lv_at hl 3 rfl) ?_
    refine lv_iconst (v := 0) hx hb dX10_ballot_13 (by decide) ?_
    refine lv_sipush (v := 1000) hx hb dX10_ballot_14 (by decide) ?_
    refine vp_callSi (W.runS (As := [.int p1, .int 0, .int 1000]) (rest := []) ⟨hx, hb, hml, hown, hts⟩ (c_X10_isWithin l p1 0 1000) (va_cwS 3 hts gX10_ballot_X10_isWithin rfl rfl rfl (by decide +kernel) ⟨Nat.le_of_ble_eq_true rfl, Nat.le_of_ble_eq_true rfl⟩) ⟨fun _ _ _ _ q => q, fun U hU hW => ⟨rfl, trivial⟩⟩ rfl rfl hl.1 rfl (lv_room (Nat.le_of_ble_eq_true rfl)) dX10_ballot_17 ⟨Nat.zero_le _, Nat.zero_le _⟩) (fun r hr9 => ?_)
    subst hr9
    refine lv_if_eq (tgt := 34) hx hb dX10_ballot_20 (by decide) (fun c2 => ?_) (fun c2 => ?_)
    · replace c2 := bo_f c2
      refine lv_iconst (v := (-1)) hx hb dX10_ballot_34 (by decide) ?_
      have E9 : s_X11_ballot F M p0 p1 p2 = ((-1), (F, M)) := by unfold s_X11_ballot; rw [if_pos c1]; rw [if_neg c2]
      exact W.iret (v := (-1)) hx hb hr (fun t ht hW => ⟨⟨(-1), Y, rfl, by rw [E9], by rw [E9]; exact ⟨⟨by rw [ht]; exact hP, va_K.moved hW.alike hK, nst_w hW hN⟩, hD⟩⟩, hS.F ht⟩) hS.2.2 dX10_ballot_35
    · replace c2 := bo_t c2
      refine lv_iload_n hx hb dX10_ballot_23 rfl (lv_at hl 4 rfl) ?_
      refine lv_iconst (v := 0) hx hb dX10_ballot_24 (by decide) ?_
      refine lv_sipush (v := 1000) hx hb dX10_ballot_25 (by decide) ?_
      refine vp_callSi (W.runS (As := [.int p2, .int 0, .int 1000]) (rest := []) ⟨hx, hb, hml, hown, hts⟩ (c_X10_isWithin l p2 0 1000) (va_cwS 3 hts gX10_ballot_X10_isWithin rfl rfl rfl (by decide +kernel) ⟨Nat.le_of_ble_eq_true rfl, Nat.le_of_ble_eq_true rfl⟩) ⟨fun _ _ _ _ q => q, fun U hU hW => ⟨rfl, trivial⟩⟩ rfl rfl hl.1 rfl (lv_room (Nat.le_of_ble_eq_true rfl)) dX10_ballot_28 ⟨Nat.zero_le _, Nat.zero_le _⟩) (fun r hr9 => ?_)
      subst hr9
      refine lv_if_ne (tgt := 36) hx hb dX10_ballot_31 (by decide) (fun c3 => ?_) (fun c3 => ?_)
      · replace c3 := bo_t c3
        refine lv_aload_n hx hb dX10_ballot_36 rfl (lv_at hl 1 rfl) ?_
        refine rg_get (D := (dC, dI)) (r := (9, 0)) (ci := 9) (v := .ref (ad (13, 0))) (C := RX10) (T := TX10) (N := 19) hx hb hts hin10 hown hK hP ((hrl _).mpr (vd_9 (by decide))) en_9 rfl 8 (by decide) (hts (.fieldLink RX10 29 "SocietyBook" "byelaws" "[LSocietyBook$Byelaw;") (by decide +kernel)) (fun _ h9 => h9) rfl dX10_ballot_37 ?_
        refine lv_aload_n hx hb dX10_ballot_40 rfl (lv_at hl 1 rfl) ?_
        refine rg_get (D := (dC, dI)) (r := (9, 0)) (ci := 9) (v := .int (F 25)) (C := RX10) (T := TX10) (N := 19) hx hb hts hin10 hown hK hP ((hrl _).mpr (vd_9 (by decide))) en_9 rfl 9 (by decide) (hts (.fieldLink RX10 179 "SocietyBook" "byelawCount" "I") (by decide +kernel)) (fun _ h9 => h9) rfl dX10_ballot_41 ?_
        refine lv_aload_n hx hb dX10_ballot_44 rfl (lv_at hl 1 rfl) ?_
        refine rg_get (D := (dC, dI)) (r := (9, 0)) (ci := 9) (v := .int (F 3)) (C := RX10) (T := TX10) (N := 19) hx hb hts hin10 hown hK hP ((hrl _).mpr (vd_9 (by decide))) en_9 rfl 0 (by decide) (hts (.fieldLink RX10 65 "SocietyBook" "today" "I") (by decide +kernel)) (fun _ h9 => h9) rfl dX10_ballot_45 ?_
        refine vp_callSi (W.runS (As := [.ref (ad (13, 0)), .int (F 25), .int (F 3)]) (rest := []) ⟨hx, hb, hml, hown, hts⟩ (c_X10_inForce13 l dC dI rl ad cy F M Y  (F 3) hrl hI hJ ) (va_cwS 3 hts gX10_ballot_X10_inForce rfl rfl rfl (by decide +kernel) ⟨Nat.le_of_ble_eq_true rfl, Nat.le_of_ble_eq_true rfl⟩) ⟨pc_blind, fun U hU hW => ⟨rfl, by rw [hU]; exact hP, va_K.moved hW.alike hK, nst_w hW hN⟩⟩ rfl rfl hl.1 rfl (lv_room (Nat.le_of_ble_eq_true rfl)) dX10_ballot_48 ⟨Nat.zero_le _, Nat.zero_le _⟩) (fun r hr9 => ?_)
        subst hr9
        refine lv_istore (lv' := [(5, .int (s_X11_inForce26 F M (F 25) (F 3))), (4, .ref (ad (1, p0.toNatClampNeg))), (0, .ref (ad (9, 0))), (1, .int p0), (2, .int p1), (3, .int p2)]) hx hb dX10_ballot_51 hl (by decide) rfl (fun ls hl => ?_)
        refine lv_iload hx hb dX10_ballot_53 (lv_at hl 0 rfl) ?_
        refine lv_bipush (v := (-9)) hx hb dX10_ballot_55 (by decide) ?_
        refine lv_icmp_ne (tgt := 63) hx hb dX10_ballot_57 (by decide) (fun c4 => ?_) (fun c4 => ?_)
        · refine lv_aload_n hx hb dX10_ballot_63 rfl (lv_at hl 2 rfl) ?_
          refine rg_get (D := (dC, dI)) (r := (9, 0)) (ci := 9) (v := .int (F 4)) (C := RX10) (T := TX10) (N := 19) hx hb hts hin10 hown hK hP ((hrl _).mpr (vd_9 (by decide))) en_9 rfl 1 (by decide) (hts (.fieldLink RX10 73 "SocietyBook" "fellows" "I") (by decide +kernel)) (fun _ h9 => h9) rfl dX10_ballot_64 ?_
          refine lv_bipush (v := 16) hx hb dX10_ballot_67 (by decide) ?_
          refine lv_icmp_lt (tgt := 75) hx hb dX10_ballot_69 (by decide) (fun c5 => ?_) (fun c5 => ?_)
          · refine lv_aload hx hb dX10_ballot_75 (lv_at hl 1 rfl) ?_
            refine rg_get (D := (dC, dI)) (r := (1, p0.toNatClampNeg)) (ci := 1) (v := .int (M 35 p0.toNatClampNeg)) (C := RX1) (T := TX1) (N := 3) hx hb hts hin1 hown hK hP ((hrl _).mpr (vd_1 (ix_cn c1 (iv_32 hI).1))) en_1 rfl 2 (by decide) (hts (.fieldLink RX10 195 "SocietyBook$Candidate" "missing" "Z") (by decide +kernel)) (fun _ h9 => h9) rfl dX10_ballot_77 ?_
            refine lv_if_eq (tgt := 89) hx hb dX10_ballot_80 (by decide) (fun c6 => ?_) (fun c6 => ?_)
            · refine lv_aload_n hx hb dX10_ballot_89 rfl (lv_at hl 2 rfl) ?_
              refine rg_get (D := (dC, dI)) (r := (9, 0)) (ci := 9) (v := .ref (ad (13, 0))) (C := RX10) (T := TX10) (N := 19) hx hb hts hin10 hown hK hP ((hrl _).mpr (vd_9 (by decide))) en_9 rfl 8 (by decide) (hts (.fieldLink RX10 29 "SocietyBook" "byelaws" "[LSocietyBook$Byelaw;") (by decide +kernel)) (fun _ h9 => h9) rfl dX10_ballot_90 ?_
              refine lv_iload hx hb dX10_ballot_93 (lv_at hl 0 rfl) ?_
              refine rg_aldq (r := (13, 0)) (v := .ref (ad (0, (s_X11_inForce26 F M (F 25) (F 3)).toNatClampNeg))) hx hb hK hP ((hrl _).mpr (vd_13 (by decide))) 5 en_13 rfl (ib_inF (l_inForce26 F M (F 25) (F 3) (F 25).toNatClampNeg (by omega)) c4 ⟨by omega, by decide⟩) (by rw [if_pos (show (s_X11_inForce26 F M (F 25) (F 3)).toNatClampNeg < (F 25).toNatClampNeg from ix_inF (l_inForce26 F M (F 25) (F 3) (F 25).toNatClampNeg (by omega)) c4 ⟨Nat.le_refl _, by omega⟩)]; rfl) dX10_ballot_95 ?_
              refine lv_aload hx hb dX10_ballot_96 (lv_at hl 1 rfl) ?_
              refine lv_aload_n hx hb dX10_ballot_98 rfl (lv_at hl 2 rfl) ?_
              refine rg_get (D := (dC, dI)) (r := (9, 0)) (ci := 9) (v := .int (F 3)) (C := RX10) (T := TX10) (N := 19) hx hb hts hin10 hown hK hP ((hrl _).mpr (vd_9 (by decide))) en_9 rfl 0 (by decide) (hts (.fieldLink RX10 65 "SocietyBook" "today" "I") (by decide +kernel)) (fun _ h9 => h9) rfl dX10_ballot_99 ?_
              refine lv_iload_n hx hb dX10_ballot_102 rfl (lv_at hl 4 rfl) ?_
              refine lv_iload_n hx hb dX10_ballot_103 rfl (lv_at hl 5 rfl) ?_
              refine vp_callSi (W.runV (As := [.ref (ad (1, p0.toNatClampNeg)), .int (F 3), .int p1, .int p2]) (rest := []) ⟨hx, hb, hml, hown, hts⟩ (c_X0_outcome l dC dI rl ad cy F M Y ((s_X11_inForce26 F M (F 25) (F 3)).toNatClampNeg) p0.toNatClampNeg p1 p2 hrl hI hJ (show (s_X11_inForce26 F M (F 25) (F 3)).toNatClampNeg < (F 25).toNatClampNeg from ix_inF (l_inForce26 F M (F 25) (F 3) (F 25).toNatClampNeg (by omega)) c4 ⟨Nat.le_refl _, by omega⟩) (ix_cn c1 (iv_32 hI).1)) (cwV 4 hts gX10_ballot_X0_outcome rfl rfl rfl (by decide +kernel) ⟨Nat.le_of_ble_eq_true rfl, Nat.le_of_ble_eq_true rfl⟩) ⟨pc_blind, rg_recv hK hP ((hrl _).mpr (vd_0 (show (s_X11_inForce26 F M (F 25) (F 3)).toNatClampNeg < (F 25).toNatClampNeg from ix_inF (l_inForce26 F M (F 25) (F 3) (F 25).toNatClampNeg (by omega)) c4 ⟨Nat.le_refl _, by omega⟩))) (ci := 0) rfl en_0, fun U hU hW => ⟨rfl, by rw [hU]; exact hP, va_K.moved hW.alike hK, nst_w hW hN⟩⟩ rfl rfl hl.1 rfl (lv_room (Nat.le_of_ble_eq_true rfl)) dX10_ballot_104 ⟨Nat.zero_le _, Nat.zero_le _⟩) (fun r hr9 => ?_)
              subst hr9
              rw [nI_bk (x := p0) c1.1]
              rw [nI_bk (x := (s_X11_inForce26 F M (F 25) (F 3))) (nn_inF (l_inForce26 F M (F 25) (F 3) (F 25).toNatClampNeg (by omega)) c4 (by omega))]
              refine lv_istore (lv' := [(6, .int (s_X11_bars F M p0 (s_X11_inForce26 F M (F 25) (F 3)) p1 p2)), (5, .int (s_X11_inForce26 F M (F 25) (F 3))), (4, .ref (ad (1, p0.toNatClampNeg))), (0, .ref (ad (9, 0))), (1, .int p0), (2, .int p1), (3, .int p2)]) hx hb dX10_ballot_107 hl (by decide) rfl (fun ls hl => ?_)
              refine lv_iload hx hb dX10_ballot_109 (lv_at hl 0 rfl) ?_
              refine lv_iconst (v := 1) hx hb dX10_ballot_111 (by decide) ?_
              refine lv_icmp_ne (tgt := 129) hx hb dX10_ballot_112 (by decide) (fun c7 => ?_) (fun c7 => ?_)
              · refine lv_iload hx hb dX10_ballot_129 (lv_at hl 0 rfl) ?_
                have E9 : s_X11_ballot F M p0 p1 p2 = ((s_X11_bars F M p0 (s_X11_inForce26 F M (F 25) (F 3)) p1 p2), (F, M)) := by unfold s_X11_ballot; rw [if_pos c1]; rw [if_pos c2]; rw [if_pos c3]; rw [if_neg c4]; rw [if_neg (fu_f (Int32.not_le.mpr c5))]; rw [if_pos c6]; rw [if_neg c7]
                exact W.iret (v := (s_X11_bars F M p0 (s_X11_inForce26 F M (F 25) (F 3)) p1 p2)) hx hb hr (fun t ht hW => ⟨⟨(s_X11_bars F M p0 (s_X11_inForce26 F M (F 25) (F 3)) p1 p2), Y, rfl, by rw [E9], by rw [E9]; exact ⟨⟨by rw [ht]; exact hP, va_K.moved hW.alike hK, nst_w hW hN⟩, hD⟩⟩, hS.F ht⟩) hS.2.2 dX10_ballot_131
              · refine lv_aload hx hb dX10_ballot_115 (lv_at hl 2 rfl) ?_
                refine lv_iconst (v := 1) hx hb dX10_ballot_117 (by decide) ?_
                refine rg_put (D := (dC, dI)) (r := (1, p0.toNatClampNeg)) (ci := 1) (v := .int 1) (ty := .boolean) (C := RX1) (T := TX1) (N := 3) hx hb hts hin1 tyX1 tyX1_ok nmX1 hown hK hP hD hS ((hrl _).mpr (vd_1 (ix_cn c1 (iv_32 hI).1))) en_1 rfl 2 (by decide) (hts (.fieldLink RX10 195 "SocietyBook$Candidate" "missing" "Z") (by decide +kernel)) (fun _ h9 => h9) rfl (by decide +kernel) rfl rfl (Nat.le_of_ble_eq_true rfl) dX10_ballot_118 (fun H locs hP hD hS => ?_)
                replace hP : va_P (dC, dI) vwCl (rx_W rl ad (eC ad cy F (va_up M 35 (upd (M 35) p0.toNatClampNeg 1)) Y)) H := ec_mp (ec_1_2 ad cy F M Y p0.toNatClampNeg 1) hP
                replace hD : va_D A (rx_W rl ad (eC ad cy F (va_up M 35 (upd (M 35) p0.toNatClampNeg 1)) Y)) := rx_D hD
                refine lv_aload_n hx hb dX10_ballot_121 rfl (lv_at hl 3 rfl) ?_
                refine lv_aload_n hx hb dX10_ballot_122 rfl (lv_at hl 3 rfl) ?_
                refine va_calli (va_runV (As := []) (rest := [.ref (ad (9, 0))]) ⟨hx, hb, hml, hown, hts⟩ (c_X10_admitFellow l dC dI rl ad cy F (va_up M 35 (upd (M 35) p0.toNatClampNeg 1)) Y   hrl hI (jv_35 hJ) A hD ) (cwV 0 hts gX10_ballot_X10_admitFellow rfl rfl rfl (by decide +kernel) ⟨Nat.le_of_ble_eq_true rfl, Nat.le_of_ble_eq_true rfl⟩) ⟨pc_blind, rg_recv hK hP ((hrl _).mpr (vd_9 (by decide))) (ci := 9) rfl en_9, fun U hU hW => ⟨rfl, by rw [hU]; exact hP, va_K.moved hW.alike hK, nst_w hW hN⟩⟩ rfl rfl hl.1 rfl (lv_room (Nat.le_of_ble_eq_true rfl)) dX10_ballot_123 ⟨Nat.zero_le _, Nat.zero_le _⟩) hS (fun q _ h => h) (fun q h => h) (fun r u t H1 locs ht hvm hw hB hz1 hk1 hS => ?_)
                subst hw
                obtain ⟨⟨hP, -, -⟩, hD⟩ := hB
                rw [ht] at hP
                clear hz1 hk1 ht hvm; generalize H1 = H at hP hS ⊢
                replace hP : va_P (dC, dI) vwCl (rx_W rl ad (eC ad cy (va_up F 4 ((F 4) + 1)) (va_up M 35 (upd (M 35) p0.toNatClampNeg 1)) u)) H := hP
                replace hD : va_D A (rx_W rl ad (eC ad cy (va_up F 4 ((F 4) + 1)) (va_up M 35 (upd (M 35) p0.toNatClampNeg 1)) u)) := hD
                refine rg_put (D := (dC, dI)) (r := (9, 0)) (ci := 9) (v := .int (((F 4) + 1) - 1)) (ty := .int) (C := RX10) (T := TX10) (N := 19) hx hb hts hin10 tyX10 tyX10_ok nmX10 hown hK hP hD hS ((hrl _).mpr (vd_9 (by decide))) en_9 rfl 16 (by decide) (hts (.fieldLink RX10 176 "SocietyBook" "lastAsked" "I") (by decide +kernel)) (fun _ h9 => h9) rfl (by decide +kernel) rfl rfl (Nat.le_of_ble_eq_true rfl) dX10_ballot_126 (fun H locs hP hD hS => ?_)
                replace hP : va_P (dC, dI) vwCl (rx_W rl ad (eC ad cy (va_up (va_up F 4 ((F 4) + 1)) 2 (((F 4) + 1) - 1)) (va_up M 35 (upd (M 35) p0.toNatClampNeg 1)) u)) H := ec_mp1 (vd_u9 hrl) (ec_9_16 ad cy (va_up F 4 ((F 4) + 1)) (va_up M 35 (upd (M 35) p0.toNatClampNeg 1)) u (((F 4) + 1) - 1)) hP
                replace hD : va_D A (rx_W rl ad (eC ad cy (va_up (va_up F 4 ((F 4) + 1)) 2 (((F 4) + 1) - 1)) (va_up M 35 (upd (M 35) p0.toNatClampNeg 1)) u)) := rx_D hD
                refine lv_iload hx hb dX10_ballot_129 (lv_at hl 0 rfl) ?_
                have E9 : s_X11_ballot F M p0 p1 p2 = ((s_X11_bars F M p0 (s_X11_inForce26 F M (F 25) (F 3)) p1 p2), (va_up (va_up F 4 ((F 4) + 1)) 2 (((F 4) + 1) - 1), va_up M 35 (upd (M 35) p0.toNatClampNeg 1))) := by unfold s_X11_ballot; rw [if_pos c1]; rw [if_pos c2]; rw [if_pos c3]; rw [if_neg c4]; rw [if_neg (fu_f (Int32.not_le.mpr c5))]; rw [if_pos c6]; rw [if_pos c7]; rw [← bl_F]; rfl
                exact W.iret (v := (s_X11_bars F M p0 (s_X11_inForce26 F M (F 25) (F 3)) p1 p2)) hx hb hr (fun t ht hW => ⟨⟨(s_X11_bars F M p0 (s_X11_inForce26 F M (F 25) (F 3)) p1 p2), u, rfl, by rw [E9], by rw [E9]; exact ⟨⟨by rw [ht]; exact hP, va_K.moved hW.alike hK, nst_w hW hN⟩, hD⟩⟩, hS.F ht⟩) hS.2.2 dX10_ballot_131
            · refine lv_aload_n hx hb dX10_ballot_83 rfl (lv_at hl 2 rfl) ?_
              refine lv_iconst (v := 1) hx hb dX10_ballot_84 (by decide) ?_
              refine va_calli (va_runV (As := [.int 1]) (rest := []) ⟨hx, hb, hml, hown, hts⟩ (c_X10_found l dC dI rl ad cy F M Y  1 hrl hI hJ A hD (ib_lit (by decide))) (cwV 1 hts gX10_ballot_X10_found rfl rfl rfl (by decide +kernel) ⟨Nat.le_of_ble_eq_true rfl, Nat.le_of_ble_eq_true rfl⟩) ⟨pc_blind, rg_recv hK hP ((hrl _).mpr (vd_9 (by decide))) (ci := 9) rfl en_9, fun U hU hW => ⟨rfl, by rw [hU]; exact hP, va_K.moved hW.alike hK, nst_w hW hN⟩⟩ rfl rfl hl.1 rfl (lv_room (Nat.le_of_ble_eq_true rfl)) dX10_ballot_85 ⟨Nat.zero_le _, Nat.zero_le _⟩) hS (fun q _ h => h) (fun q h => h) (fun r u t H1 locs ht hvm hw hB hz1 hk1 hS => ?_)
              subst hw
              obtain ⟨⟨hP, -, -⟩, hD⟩ := hB
              rw [ht] at hP
              clear hz1 hk1 ht hvm; generalize H1 = H at hP hS ⊢
              skip
              have E9 : s_X11_ballot F M p0 p1 p2 = ((s_X11_meets F M 1).1, ((s_X11_meets F M 1).2.1, (s_X11_meets F M 1).2.2)) := by unfold s_X11_ballot; rw [if_pos c1]; rw [if_pos c2]; rw [if_pos c3]; rw [if_neg c4]; rw [if_neg (fu_f (Int32.not_le.mpr c5))]; rw [if_neg c6]
              exact W.iret (v := (s_X11_meets F M 1).1) hx hb hr (fun t ht hW => ⟨⟨(s_X11_meets F M 1).1, u, rfl, by rw [E9], by rw [E9]; exact ⟨⟨by rw [ht]; exact hP, va_K.moved hW.alike hK, nst_w hW hN⟩, hD⟩⟩, hS.F ht⟩) hS.2.2 dX10_ballot_88
          · refine lv_bipush (v := (-2)) hx hb dX10_ballot_72 (by decide) ?_
            have E9 : s_X11_ballot F M p0 p1 p2 = ((-2), (F, M)) := by unfold s_X11_ballot; rw [if_pos c1]; rw [if_pos c2]; rw [if_pos c3]; rw [if_neg c4]; rw [if_pos (fu_t (iv_4 hI) (Int32.not_lt.mp c5))]
            exact W.iret (v := (-2)) hx hb hr (fun t ht hW => ⟨⟨(-2), Y, rfl, by rw [E9], by rw [E9]; exact ⟨⟨by rw [ht]; exact hP, va_K.moved hW.alike hK, nst_w hW hN⟩, hD⟩⟩, hS.F ht⟩) hS.2.2 dX10_ballot_74
        · refine lv_bipush (v := (-4)) hx hb dX10_ballot_60 (by decide) ?_
          have E9 : s_X11_ballot F M p0 p1 p2 = ((-4), (F, M)) := by unfold s_X11_ballot; rw [if_pos c1]; rw [if_pos c2]; rw [if_pos c3]; rw [if_pos c4]
          exact W.iret (v := (-4)) hx hb hr (fun t ht hW => ⟨⟨(-4), Y, rfl, by rw [E9], by rw [E9]; exact ⟨⟨by rw [ht]; exact hP, va_K.moved hW.alike hK, nst_w hW hN⟩, hD⟩⟩, hS.F ht⟩) hS.2.2 dX10_ballot_62
      · replace c3 := bo_f c3
        refine lv_iconst (v := (-1)) hx hb dX10_ballot_34 (by decide) ?_
        have E9 : s_X11_ballot F M p0 p1 p2 = ((-1), (F, M)) := by unfold s_X11_ballot; rw [if_pos c1]; rw [if_pos c2]; rw [if_neg c3]
        exact W.iret (v := (-1)) hx hb hr (fun t ht hW => ⟨⟨(-1), Y, rfl, by rw [E9], by rw [E9]; exact ⟨⟨by rw [ht]; exact hP, va_K.moved hW.alike hK, nst_w hW hN⟩, hD⟩⟩, hS.F ht⟩) hS.2.2 dX10_ballot_35
  · rw [if_neg c1]
    refine W.eq (g2 := F0 m 5 ls (.null :: [])) rfl ?_
    refine lv_astoreN (lv' := [(4, .null), (0, .ref (ad (9, 0))), (1, .int p0), (2, .int p1), (3, .int p2)]) hx hb dX10_ballot_5 hl (by decide) rfl (fun ls hl => ?_)
    refine lv_aloadN hx hb dX10_ballot_7 (lv_at hl 0 rfl) ?_
    refine lv_ifnullN (tgt := 34) hx hb dX10_ballot_9 (by decide) ?_
    refine lv_iconst (v := (-1)) hx hb dX10_ballot_34 (by decide) ?_
    have E9 : s_X11_ballot F M p0 p1 p2 = ((-1), (F, M)) := by unfold s_X11_ballot; rw [if_neg c1]
    exact W.iret (v := (-1)) hx hb hr (fun t ht hW => ⟨⟨(-1), Y, rfl, by rw [E9], by rw [E9]; exact ⟨⟨by rw [ht]; exact hP, va_K.moved hW.alike hK, nst_w hW hN⟩, hD⟩⟩, hS.F ht⟩) hS.2.2 dX10_ballot_35

set_option maxHeartbeats 4000000 in
set_option maxRecDepth 100000 in
theorem c_X10_lay (l : Launch) (dC : Nat → ClassId) (dI : Nat → Nat → Nat) (rl : List (Nat × Nat)) (ad : Nat × Nat → Nat) (cy : Nat → ClassId) (F : Nat → Int32) (M Y : Nat → Nat → Int32) (p0 : Int32) (p1 : Int32) (p2 : Int32) (hrl : ∀ r, r ∈ rl ↔ vd F r) (hI : iv F M) (hJ : jv F M) (A : Nat → Prop) (hD : va_D A (rx_W rl ad (eC ad cy F M Y))) : Met l yX10_lay wsX10_lay ({ frames := 2, cells := 0, slots := 0, locals := 42 } : Room) (va_Pc [.ref (ad (9, 0)), .int p0, .int p1, .int p2] (pC dC dI rl ad cy (eC ad cy F M Y))) (va_Qi (fun r (_ : Nat → Nat → Int32) => r = (s_X11_lay F M p0 p1 p2).1) (qC A dC dI rl ad cy (s_X11_lay F M p0 p1 p2).2.1 (s_X11_lay F M p0 p1 p2).2.2) A) 0 0 A := by
  refine Met.ofW (cc := cX10_lay) (maxL := 6) (ret := (some .int)) (by decide) rfl ?_
  intro p e s m args below meth c s₁ B hml hv
  obtain ⟨rfl, hP, hK, hN⟩ := hv
  have hx := B.exec
  have hb := B.bytes
  have hr := B.returns
  have hts := atoms_spec (ws := wsX10_lay) B.pre
  have hown : s.vm.findClass RX10 = some m.cls := findClass_of_methodNamed B.named
  have hlocks := B.notSynchronized
  have hin10 : ∀ w ∈ wsX100, w ∈ wsX10_lay := by decide +kernel
  have hin8 : ∀ w ∈ wsX80, w ∈ wsX10_lay := by decide +kernel
  have hS : va_S A s.heap s.heap [] := va_S.rf
  have hl := lv_entry ([.ref (ad (9, 0)), .int p0, .int p1, .int p2]) (n := 6) (Nat.le_of_ble_eq_true rfl)
  rw [lg_entry_eq]
  generalize (lg_sl ([.ref (ad (9, 0)), .int p0, .int p1, .int p2]) ++ List.replicate (6 - (lg_sl ([.ref (ad (9, 0)), .int p0, .int p1, .int p2])).length) Slot.unset).toArray = ls at hl ⊢
  have hl : lv_has ls 6 [(0, .ref (ad (9, 0))), (1, .int p0), (2, .int p1), (3, .int p2)] := hl
  refine lv_iload_n hx hb dX10_lay_0 rfl (lv_at hl 1 rfl) ?_
  refine vp_callSi (W.runS (As := [.int p0]) (rest := []) ⟨hx, hb, hml, hown, hts⟩ (c_X10_isSheet l p0) (va_cwS 1 hts gX10_lay_X10_isSheet rfl rfl rfl (by decide +kernel) ⟨Nat.le_of_ble_eq_true rfl, Nat.le_of_ble_eq_true rfl⟩) ⟨fun _ _ _ _ q => q, fun U hU hW => ⟨rfl, trivial⟩⟩ rfl rfl hl.1 rfl (lv_room (Nat.le_of_ble_eq_true rfl)) dX10_lay_1 ⟨Nat.zero_le _, Nat.zero_le _⟩) (fun r hr9 => ?_)
  subst hr9
  refine lv_if_ne (tgt := 9) hx hb dX10_lay_4 (by decide) (fun c1 => ?_) (fun c1 => ?_)
  · replace c1 := bo_t c1
    refine lv_aload_n hx hb dX10_lay_9 rfl (lv_at hl 0 rfl) ?_
    refine rg_get (D := (dC, dI)) (r := (9, 0)) (ci := 9) (v := .ref (ad (17, 0))) (C := RX10) (T := TX10) (N := 19) hx hb hts hin10 hown hK hP ((hrl _).mpr (vd_9 (by decide))) en_9 rfl 15 (by decide) (hts (.fieldLink RX10 54 "SocietyBook" "sheets" "[LSocietyBook$Sheet;") (by decide +kernel)) (fun _ h9 => h9) rfl dX10_lay_10 ?_
    refine lv_iload_n hx hb dX10_lay_13 rfl (lv_at hl 1 rfl) ?_
    refine rg_aldq (r := (17, 0)) (v := .ref (ad (7, p0.toNatClampNeg))) hx hb hK hP ((hrl _).mpr (vd_17 (by decide))) 9 en_17 rfl (ib_in c1 (by decide)) rfl dX10_lay_14 ?_
    refine lv_astore (lv' := [(4, .ref (ad (7, p0.toNatClampNeg))), (0, .ref (ad (9, 0))), (1, .int p0), (2, .int p1), (3, .int p2)]) hx hb dX10_lay_15 hl (by decide) rfl (fun ls hl => ?_)
    refine lv_aload hx hb dX10_lay_17 (lv_at hl 0 rfl) ?_
    refine rg_get (D := (dC, dI)) (r := (7, p0.toNatClampNeg)) (ci := 7) (v := .int (if M 43 p0.toNatClampNeg < 0 then (1 : Int32) else 0)) (C := RX8) (T := TX8) (N := 3) hx hb hts hin8 hown hK hP ((hrl _).mpr (vd_7 (ib_cl (ib_in c1 (by decide))).2)) en_7 rfl 0 (by decide) (hts (.fieldLink RX10 241 "SocietyBook$Sheet" "missing" "Z") (by decide +kernel)) (fun _ h9 => h9) rfl dX10_lay_19 ?_
    refine lv_if_eq (tgt := 31) hx hb dX10_lay_22 (by decide) (fun c2 => ?_) (fun c2 => ?_)
    · replace c2 := bo_f c2
      refine lv_iload_n hx hb dX10_lay_31 rfl (lv_at hl 3 rfl) ?_
      refine lv_iconst (v := 0) hx hb dX10_lay_32 (by decide) ?_
      refine lv_aload hx hb dX10_lay_33 (lv_at hl 0 rfl) ?_
      refine rg_get (D := (dC, dI)) (r := (7, p0.toNatClampNeg)) (ci := 7) (v := .int (M 43 p0.toNatClampNeg)) (C := RX8) (T := TX8) (N := 3) hx hb hts hin8 hown hK hP ((hrl _).mpr (vd_7 (ib_cl (ib_in c1 (by decide))).2)) en_7 rfl 1 (by decide) (hts (.fieldLink RX10 242 "SocietyBook$Sheet" "size" "I") (by decide +kernel)) (fun _ h9 => h9) (show some (Value.int (if M 43 p0.toNatClampNeg < 0 then Y 2 p0.toNatClampNeg else M 43 p0.toNatClampNeg)) = some (Value.int (M 43 p0.toNatClampNeg)) from by rw [if_neg c2]) dX10_lay_35 ?_
      refine lv_iconst (v := 1) hx hb dX10_lay_38 (by decide) ?_
      refine lv_isub hx hb dX10_lay_39 ?_
      refine vp_callSi (W.runS (As := [.int p1, .int 0, .int ((M 43 p0.toNatClampNeg) - 1)]) (rest := []) ⟨hx, hb, hml, hown, hts⟩ (c_X10_isWithin l p1 0 ((M 43 p0.toNatClampNeg) - 1)) (va_cwS 3 hts gX10_lay_X10_isWithin rfl rfl rfl (by decide +kernel) ⟨Nat.le_of_ble_eq_true rfl, Nat.le_of_ble_eq_true rfl⟩) ⟨fun _ _ _ _ q => q, fun U hU hW => ⟨rfl, trivial⟩⟩ rfl rfl hl.1 rfl (lv_room (Nat.le_of_ble_eq_true rfl)) dX10_lay_40 ⟨Nat.zero_le _, Nat.zero_le _⟩) (fun r hr9 => ?_)
      subst hr9
      refine lv_if_ne (tgt := 52) hx hb dX10_lay_43 (by decide) (fun c3 => ?_) (fun c3 => ?_)
      · replace c3 := bo_t c3
        refine lv_aload hx hb dX10_lay_52 (lv_at hl 0 rfl) ?_
        refine rg_get (D := (dC, dI)) (r := (7, p0.toNatClampNeg)) (ci := 7) (v := .ref (ad (24, p0.toNatClampNeg))) (C := RX8) (T := TX8) (N := 3) hx hb hts hin8 hown hK hP ((hrl _).mpr (vd_7 (ib_cl (ib_in c1 (by decide))).2)) en_7 rfl 2 (by decide) (hts (.fieldLink RX10 245 "SocietyBook$Sheet" "bytes" "[B") (by decide +kernel)) (fun _ h9 => h9) rfl dX10_lay_54 ?_
        refine lv_iload_n hx hb dX10_lay_57 rfl (lv_at hl 3 rfl) ?_
        refine rg_bald (r := (24, p0.toNatClampNeg)) (v := (M 44) (12 * p0.toNatClampNeg + p1.toNatClampNeg)) hx hb hK hP ((hrl _).mpr (vd_24 (ib_cl (ib_in c1 (by decide))).2)) 1 en_24 rfl (ib_sz hI (ib_in c1 (by decide)) c3) (by exact if_pos (ib_cl (ib_sz hI (ib_in c1 (by decide)) c3)).2) dX10_lay_58 ?_
        refine lv_istore (lv' := [(5, .int ((M 44) (12 * p0.toNatClampNeg + p1.toNatClampNeg))), (4, .ref (ad (7, p0.toNatClampNeg))), (0, .ref (ad (9, 0))), (1, .int p0), (2, .int p1), (3, .int p2)]) hx hb dX10_lay_59 hl (by decide) rfl (fun ls hl => ?_)
        refine lv_aload hx hb dX10_lay_61 (lv_at hl 1 rfl) ?_
        refine rg_get (D := (dC, dI)) (r := (7, p0.toNatClampNeg)) (ci := 7) (v := .ref (ad (24, p0.toNatClampNeg))) (C := RX8) (T := TX8) (N := 3) hx hb hts hin8 hown hK hP ((hrl _).mpr (vd_7 (ib_cl (ib_in c1 (by decide))).2)) en_7 rfl 2 (by decide) (hts (.fieldLink RX10 245 "SocietyBook$Sheet" "bytes" "[B") (by decide +kernel)) (fun _ h9 => h9) rfl dX10_lay_63 ?_
        refine lv_iload_n hx hb dX10_lay_66 rfl (lv_at hl 4 rfl) ?_
        refine lv_iload_n hx hb dX10_lay_67 rfl (lv_at hl 5 rfl) ?_
        refine lv_i2b hx hb dX10_lay_68 (v := p2.toInt8.toInt32) rfl ?_
        refine rg_bast (r := (24, p0.toNatClampNeg)) hx hb hK hP hD hS ((hrl _).mpr (vd_24 (ib_cl (ib_in c1 (by decide))).2)) 1 en_24 rfl (ib_sz hI (ib_in c1 (by decide)) c3) dX10_lay_69 (fun H locs hP hD hS => ?_)
        replace hP : va_P (dC, dI) vwCl (rx_W rl ad (eC ad cy F (va_up M 44 (upd (M 44) (12 * p0.toNatClampNeg + p1.toNatClampNeg) (vp_nar .byte p2.toInt8.toInt32))) Y)) H := ec_mp (ec_24 ad cy F M Y p0.toNatClampNeg p1.toNatClampNeg (ib_cl (ib_sz hI (ib_in c1 (by decide)) c3)).2 (vp_nar .byte p2.toInt8.toInt32)) hP
        replace hD : va_D A (rx_W rl ad (eC ad cy F (va_up M 44 (upd (M 44) (12 * p0.toNatClampNeg + p1.toNatClampNeg) (vp_nar .byte p2.toInt8.toInt32))) Y)) := rx_D hD
        refine lv_iload hx hb dX10_lay_70 (lv_at hl 0 rfl) ?_
        refine lv_sipush (v := 1000) hx hb dX10_lay_72 (by decide) ?_
        refine lv_iadd hx hb dX10_lay_75 ?_
        have E9 : s_X11_lay F M p0 p1 p2 = (((M 44) (12 * p0.toNatClampNeg + p1.toNatClampNeg)) + 1000, (F, va_up M 44 (upd (M 44) (12 * p0.toNatClampNeg + p1.toNatClampNeg) (vp_nar .byte p2.toInt8.toInt32)))) := by unfold s_X11_lay; rw [if_pos c1]; rw [if_pos (Int32.not_lt.mp c2)]; rw [if_pos c3]; rw [cl12 (S := 4) (ib_in c1 (by decide)) (ib_sz hI (ib_in c1 (by decide)) c3) (by decide), Int32.add_comm 1000]
        exact W.iret (v := ((M 44) (12 * p0.toNatClampNeg + p1.toNatClampNeg)) + 1000) hx hb hr (fun t ht hW => ⟨⟨((M 44) (12 * p0.toNatClampNeg + p1.toNatClampNeg)) + 1000, Y, rfl, by rw [E9], by rw [E9]; exact ⟨⟨by rw [ht]; exact hP, va_K.moved hW.alike hK, nst_w hW hN⟩, hD⟩⟩, hS.F ht⟩) hS.2.2 dX10_lay_76
      · replace c3 := bo_f c3
        refine lv_aload_n hx hb dX10_lay_46 rfl (lv_at hl 1 rfl) ?_
        refine lv_iconst (v := 2) hx hb dX10_lay_47 (by decide) ?_
        refine va_calli (va_runV (As := [.int 2]) (rest := []) ⟨hx, hb, hml, hown, hts⟩ (c_X10_found l dC dI rl ad cy F M Y  2 hrl hI hJ A hD (ib_lit (by decide))) (cwV 1 hts gX10_lay_X10_found rfl rfl rfl (by decide +kernel) ⟨Nat.le_of_ble_eq_true rfl, Nat.le_of_ble_eq_true rfl⟩) ⟨pc_blind, rg_recv hK hP ((hrl _).mpr (vd_9 (by decide))) (ci := 9) rfl en_9, fun U hU hW => ⟨rfl, by rw [hU]; exact hP, va_K.moved hW.alike hK, nst_w hW hN⟩⟩ rfl rfl hl.1 rfl (lv_room (Nat.le_of_ble_eq_true rfl)) dX10_lay_48 ⟨Nat.zero_le _, Nat.zero_le _⟩) hS (fun q _ h => h) (fun q h => h) (fun r u t H1 locs ht hvm hw hB hz1 hk1 hS => ?_)
        subst hw
        obtain ⟨⟨hP, -, -⟩, hD⟩ := hB
        rw [ht] at hP
        clear hz1 hk1 ht hvm; generalize H1 = H at hP hS ⊢
        skip
        have E9 : s_X11_lay F M p0 p1 p2 = ((s_X11_meets F M 2).1, ((s_X11_meets F M 2).2.1, (s_X11_meets F M 2).2.2)) := by unfold s_X11_lay; rw [if_pos c1]; rw [if_pos (Int32.not_lt.mp c2)]; rw [if_neg c3]
        exact W.iret (v := (s_X11_meets F M 2).1) hx hb hr (fun t ht hW => ⟨⟨(s_X11_meets F M 2).1, u, rfl, by rw [E9], by rw [E9]; exact ⟨⟨by rw [ht]; exact hP, va_K.moved hW.alike hK, nst_w hW hN⟩, hD⟩⟩, hS.F ht⟩) hS.2.2 dX10_lay_51
    · replace c2 := bo_t c2
      refine lv_aload_n hx hb dX10_lay_25 rfl (lv_at hl 1 rfl) ?_
      refine lv_iconst (v := 1) hx hb dX10_lay_26 (by decide) ?_
      refine va_calli (va_runV (As := [.int 1]) (rest := []) ⟨hx, hb, hml, hown, hts⟩ (c_X10_found l dC dI rl ad cy F M Y  1 hrl hI hJ A hD (ib_lit (by decide))) (cwV 1 hts gX10_lay_X10_found rfl rfl rfl (by decide +kernel) ⟨Nat.le_of_ble_eq_true rfl, Nat.le_of_ble_eq_true rfl⟩) ⟨pc_blind, rg_recv hK hP ((hrl _).mpr (vd_9 (by decide))) (ci := 9) rfl en_9, fun U hU hW => ⟨rfl, by rw [hU]; exact hP, va_K.moved hW.alike hK, nst_w hW hN⟩⟩ rfl rfl hl.1 rfl (lv_room (Nat.le_of_ble_eq_true rfl)) dX10_lay_27 ⟨Nat.zero_le _, Nat.zero_le _⟩) hS (fun q _ h => h) (fun q h => h) (fun r u t H1 locs ht hvm hw hB hz1 hk1 hS => ?_)
      subst hw
      obtain ⟨⟨hP, -, -⟩, hD⟩ := hB
      rw [ht] at hP
      clear hz1 hk1 ht hvm; generalize H1 = H at hP hS ⊢
      skip
      have E9 : s_X11_lay F M p0 p1 p2 = ((s_X11_meets F M 1).1, ((s_X11_meets F M 1).2.1, (s_X11_meets F M 1).2.2)) := by unfold s_X11_lay; rw [if_pos c1]; rw [if_neg (Int32.not_le.mpr c2)]
      exact W.iret (v := (s_X11_meets F M 1).1) hx hb hr (fun t ht hW => ⟨⟨(s_X11_meets F M 1).1, u, rfl, by rw [E9], by rw [E9]; exact ⟨⟨by rw [ht]; exact hP, va_K.moved hW.alike hK, nst_w hW hN⟩, hD⟩⟩, hS.F ht⟩) hS.2.2 dX10_lay_30
  · replace c1 := bo_f c1
    refine lv_iconst (v := (-1)) hx hb dX10_lay_7 (by decide) ?_
    have E9 : s_X11_lay F M p0 p1 p2 = ((-1), (F, M)) := by unfold s_X11_lay; rw [if_neg c1]
    exact W.iret (v := (-1)) hx hb hr (fun t ht hW => ⟨⟨(-1), Y, rfl, by rw [E9], by rw [E9]; exact ⟨⟨by rw [ht]; exact hP, va_K.moved hW.alike hK, nst_w hW hN⟩, hD⟩⟩, hS.F ht⟩) hS.2.2 dX10_lay_8

set_option maxHeartbeats 4000000 in
set_option maxRecDepth 100000 in
theorem c_X10_tear (l : Launch) (dC : Nat → ClassId) (dI : Nat → Nat → Nat) (rl : List (Nat × Nat)) (ad : Nat × Nat → Nat) (cy : Nat → ClassId) (F : Nat → Int32) (M Y : Nat → Nat → Int32) (p0 : Int32) (hrl : ∀ r, r ∈ rl ↔ vd F r) (hI : iv F M) (hJ : jv F M) (A : Nat → Prop) (hD : va_D A (rx_W rl ad (eC ad cy F M Y))) : Met l yX10_tear wsX10_tear ({ frames := 2, cells := 0, slots := 0, locals := 42 } : Room) (va_Pc [.ref (ad (9, 0)), .int p0] (pC dC dI rl ad cy (eC ad cy F M Y))) (va_Qi (fun r (_ : Nat → Nat → Int32) => r = (s_X11_tear F M p0).1) (qC A dC dI rl ad cy (s_X11_tear F M p0).2.1 (s_X11_tear F M p0).2.2) A) 0 0 A := by
  refine Met.ofW (cc := cX10_tear) (maxL := 2) (ret := (some .int)) (by decide) rfl ?_
  intro p e s m args below meth c s₁ B hml hv
  obtain ⟨rfl, hP, hK, hN⟩ := hv
  have hx := B.exec
  have hb := B.bytes
  have hr := B.returns
  have hts := atoms_spec (ws := wsX10_tear) B.pre
  have hown : s.vm.findClass RX10 = some m.cls := findClass_of_methodNamed B.named
  have hlocks := B.notSynchronized
  have hin10 : ∀ w ∈ wsX100, w ∈ wsX10_tear := by decide +kernel
  have hin8 : ∀ w ∈ wsX80, w ∈ wsX10_tear := by decide +kernel
  have hS : va_S A s.heap s.heap [] := va_S.rf
  have hl := lv_entry ([.ref (ad (9, 0)), .int p0]) (n := 2) (Nat.le_of_ble_eq_true rfl)
  rw [lg_entry_eq]
  generalize (lg_sl ([.ref (ad (9, 0)), .int p0]) ++ List.replicate (2 - (lg_sl ([.ref (ad (9, 0)), .int p0])).length) Slot.unset).toArray = ls at hl ⊢
  have hl : lv_has ls 2 [(0, .ref (ad (9, 0))), (1, .int p0)] := hl
  refine lv_iload_n hx hb dX10_tear_0 rfl (lv_at hl 1 rfl) ?_
  refine vp_callSi (W.runS (As := [.int p0]) (rest := []) ⟨hx, hb, hml, hown, hts⟩ (c_X10_isSheet l p0) (va_cwS 1 hts gX10_tear_X10_isSheet rfl rfl rfl (by decide +kernel) ⟨Nat.le_of_ble_eq_true rfl, Nat.le_of_ble_eq_true rfl⟩) ⟨fun _ _ _ _ q => q, fun U hU hW => ⟨rfl, trivial⟩⟩ rfl rfl hl.1 rfl (lv_room (Nat.le_of_ble_eq_true rfl)) dX10_tear_1 ⟨Nat.zero_le _, Nat.zero_le _⟩) (fun r hr9 => ?_)
  subst hr9
  refine lv_if_ne (tgt := 9) hx hb dX10_tear_4 (by decide) (fun c1 => ?_) (fun c1 => ?_)
  · replace c1 := bo_t c1
    refine lv_aload_n hx hb dX10_tear_9 rfl (lv_at hl 0 rfl) ?_
    refine rg_get (D := (dC, dI)) (r := (9, 0)) (ci := 9) (v := .ref (ad (17, 0))) (C := RX10) (T := TX10) (N := 19) hx hb hts hin10 hown hK hP ((hrl _).mpr (vd_9 (by decide))) en_9 rfl 15 (by decide) (hts (.fieldLink RX10 54 "SocietyBook" "sheets" "[LSocietyBook$Sheet;") (by decide +kernel)) (fun _ h9 => h9) rfl dX10_tear_10 ?_
    refine lv_iload_n hx hb dX10_tear_13 rfl (lv_at hl 1 rfl) ?_
    refine rg_aldq (r := (17, 0)) (v := .ref (ad (7, p0.toNatClampNeg))) hx hb hK hP ((hrl _).mpr (vd_17 (by decide))) 9 en_17 rfl (ib_in c1 (by decide)) rfl dX10_tear_14 ?_
    refine rg_get (D := (dC, dI)) (r := (7, p0.toNatClampNeg)) (ci := 7) (v := .int (if M 43 p0.toNatClampNeg < 0 then (1 : Int32) else 0)) (C := RX8) (T := TX8) (N := 3) hx hb hts hin8 hown hK hP ((hrl _).mpr (vd_7 (ib_cl (ib_in c1 (by decide))).2)) en_7 rfl 0 (by decide) (hts (.fieldLink RX10 241 "SocietyBook$Sheet" "missing" "Z") (by decide +kernel)) (fun _ h9 => h9) rfl dX10_tear_15 ?_
    refine lv_if_eq (tgt := 27) hx hb dX10_tear_18 (by decide) (fun c2 => ?_) (fun c2 => ?_)
    · replace c2 := bo_f c2
      refine lv_aload_n hx hb dX10_tear_27 rfl (lv_at hl 0 rfl) ?_
      refine rg_get (D := (dC, dI)) (r := (9, 0)) (ci := 9) (v := .ref (ad (17, 0))) (C := RX10) (T := TX10) (N := 19) hx hb hts hin10 hown hK hP ((hrl _).mpr (vd_9 (by decide))) en_9 rfl 15 (by decide) (hts (.fieldLink RX10 54 "SocietyBook" "sheets" "[LSocietyBook$Sheet;") (by decide +kernel)) (fun _ h9 => h9) rfl dX10_tear_28 ?_
      refine lv_iload_n hx hb dX10_tear_31 rfl (lv_at hl 1 rfl) ?_
      refine rg_aldq (r := (17, 0)) (v := .ref (ad (7, p0.toNatClampNeg))) hx hb hK hP ((hrl _).mpr (vd_17 (by decide))) 9 en_17 rfl (ib_in c1 (by decide)) rfl dX10_tear_32 ?_
      refine lv_iconst (v := 1) hx hb dX10_tear_33 (by decide) ?_
      refine rg_put (D := (dC, dI)) (r := (7, p0.toNatClampNeg)) (ci := 7) (v := .int 1) (ty := .boolean) (C := RX8) (T := TX8) (N := 3) hx hb hts hin8 tyX8 tyX8_ok nmX8 hown hK hP hD hS ((hrl _).mpr (vd_7 (ib_cl (ib_in c1 (by decide))).2)) en_7 rfl 0 (by decide) (hts (.fieldLink RX10 241 "SocietyBook$Sheet" "missing" "Z") (by decide +kernel)) (fun _ h9 => h9) rfl (by decide +kernel) rfl rfl (Nat.le_of_ble_eq_true rfl) dX10_tear_34 (fun H locs hP hD hS => ?_)
      replace hP : va_P (dC, dI) vwCl (rx_W rl ad (eC ad cy F (va_up M 43 (upd (M 43) p0.toNatClampNeg (-1))) (va_up Y 2 (upd (Y 2) p0.toNatClampNeg (M 43 p0.toNatClampNeg))))) H := ec_mp (ec_tear ad cy F M Y p0.toNatClampNeg c2) hP
      replace hD : va_D A (rx_W rl ad (eC ad cy F (va_up M 43 (upd (M 43) p0.toNatClampNeg (-1))) (va_up Y 2 (upd (Y 2) p0.toNatClampNeg (M 43 p0.toNatClampNeg))))) := rx_D hD
      refine lv_iconst (v := 1) hx hb dX10_tear_37 (by decide) ?_
      have E9 : s_X11_tear F M p0 = (1, (F, va_up M 43 (upd (M 43) p0.toNatClampNeg (-1)))) := by unfold s_X11_tear; rw [if_pos c1]; rw [if_pos (Int32.not_lt.mp c2)]
      exact W.iret (v := 1) hx hb hr (fun t ht hW => ⟨⟨1, va_up Y 2 (upd (Y 2) p0.toNatClampNeg (M 43 p0.toNatClampNeg)), rfl, by rw [E9], by rw [E9]; exact ⟨⟨by rw [ht]; exact hP, va_K.moved hW.alike hK, nst_w hW hN⟩, hD⟩⟩, hS.F ht⟩) hS.2.2 dX10_tear_38
    · replace c2 := bo_t c2
      refine lv_aload_n hx hb dX10_tear_21 rfl (lv_at hl 0 rfl) ?_
      refine lv_iconst (v := 1) hx hb dX10_tear_22 (by decide) ?_
      refine va_calli (va_runV (As := [.int 1]) (rest := []) ⟨hx, hb, hml, hown, hts⟩ (c_X10_found l dC dI rl ad cy F M Y  1 hrl hI hJ A hD (ib_lit (by decide))) (cwV 1 hts gX10_tear_X10_found rfl rfl rfl (by decide +kernel) ⟨Nat.le_of_ble_eq_true rfl, Nat.le_of_ble_eq_true rfl⟩) ⟨pc_blind, rg_recv hK hP ((hrl _).mpr (vd_9 (by decide))) (ci := 9) rfl en_9, fun U hU hW => ⟨rfl, by rw [hU]; exact hP, va_K.moved hW.alike hK, nst_w hW hN⟩⟩ rfl rfl hl.1 rfl (lv_room (Nat.le_of_ble_eq_true rfl)) dX10_tear_23 ⟨Nat.zero_le _, Nat.zero_le _⟩) hS (fun q _ h => h) (fun q h => h) (fun r u t H1 locs ht hvm hw hB hz1 hk1 hS => ?_)
      subst hw
      obtain ⟨⟨hP, -, -⟩, hD⟩ := hB
      rw [ht] at hP
      clear hz1 hk1 ht hvm; generalize H1 = H at hP hS ⊢
      skip
      have E9 : s_X11_tear F M p0 = ((s_X11_meets F M 1).1, ((s_X11_meets F M 1).2.1, (s_X11_meets F M 1).2.2)) := by unfold s_X11_tear; rw [if_pos c1]; rw [if_neg (Int32.not_le.mpr c2)]
      exact W.iret (v := (s_X11_meets F M 1).1) hx hb hr (fun t ht hW => ⟨⟨(s_X11_meets F M 1).1, u, rfl, by rw [E9], by rw [E9]; exact ⟨⟨by rw [ht]; exact hP, va_K.moved hW.alike hK, nst_w hW hN⟩, hD⟩⟩, hS.F ht⟩) hS.2.2 dX10_tear_26
  · replace c1 := bo_f c1
    refine lv_iconst (v := (-1)) hx hb dX10_tear_7 (by decide) ?_
    have E9 : s_X11_tear F M p0 = ((-1), (F, M)) := by unfold s_X11_tear; rw [if_neg c1]
    exact W.iret (v := (-1)) hx hb hr (fun t ht hW => ⟨⟨(-1), Y, rfl, by rw [E9], by rw [E9]; exact ⟨⟨by rw [ht]; exact hP, va_K.moved hW.alike hK, nst_w hW hN⟩, hD⟩⟩, hS.F ht⟩) hS.2.2 dX10_tear_8
