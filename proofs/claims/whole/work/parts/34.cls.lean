
theorem nI_b3 {x : Int32} {N : Nat} (h : vp_in x N) : nI x.toNatClampNeg = x := nI_bk (by
  have h1 := vp_in_iff.mp h
  exact ib_le.mpr (by rw [ib_0]; exact h1.1))

set_option maxHeartbeats 4000000 in
set_option maxRecDepth 100000 in
theorem c_X5_lastDay (l : Launch) (dC : Nat → ClassId) (dI : Nat → Nat → Nat) (rl : List (Nat × Nat)) (ad : Nat × Nat → Nat) (cy : Nat → ClassId) (F : Nat → Int32) (M Y : Nat → Nat → Int32) (j : Nat) (p0 : Int32) (hrl : ∀ r, r ∈ rl ↔ vd F r) (hI : iv F M) (hJ : jv F M) (hj : j < (F 7).toNatClampNeg) (hw : vp_in p0 3) : Met l yX5_lastDay wsX5_lastDay ({ frames := 0, cells := 0, slots := 0, locals := 0 } : Room) (va_Pc [.ref (ad (5, j)), .int p0] (pC dC dI rl ad cy (eC ad cy F M Y))) (vp_Si (fun r => r = s_X11_lastOf F M (nI j) p0 30000)) 0 0 (fun _ => False) := by
  refine Met.ofW (cc := cX5_lastDay) (maxL := 3) (ret := (some .int)) (by decide) rfl ?_
  intro p e s m args below meth c s₁ B hml hv
  obtain ⟨rfl, hP, hK, hN⟩ := hv
  have hx := B.exec
  have hb := B.bytes
  have hr := B.returns
  have hts := atoms_spec (ws := wsX5_lastDay) B.pre
  have hown : s.vm.findClass RX5 = some m.cls := findClass_of_methodNamed B.named
  have hlocks := B.notSynchronized
  have hin4 : ∀ w ∈ wsX40, w ∈ wsX5_lastDay := by decide +kernel
  have hin5 : ∀ w ∈ wsX50, w ∈ wsX5_lastDay := by decide +kernel
  have hl := lv_entry ([.ref (ad (5, j)), .int p0]) (n := 3) (Nat.le_of_ble_eq_true rfl)
  rw [lg_entry_eq]
  generalize (lg_sl ([.ref (ad (5, j)), .int p0]) ++ List.replicate (3 - (lg_sl ([.ref (ad (5, j)), .int p0])).length) Slot.unset).toArray = ls at hl ⊢
  have hl : lv_has ls 3 [(0, .ref (ad (5, j))), (1, .int p0)] := hl
  refine lv_aload_n hx hb dX5_lastDay_0 rfl (lv_at hl 0 rfl) ?_
  refine rg_get (D := (dC, dI)) (r := (5, j)) (ci := 5) (v := .ref (ad (15, j))) (C := RX5) (T := TX5) (N := 9) hx hb hts hin5 hown hK hP ((hrl _).mpr (vd_5 hj)) en_5 rfl 8 (by decide) (hts (.fieldLink RX5 26 "SocietyBook$Paper" "lastNotes" "[LSocietyBook$Note;") (by decide +kernel)) (fun _ h9 => h9) rfl dX5_lastDay_1 ?_
  refine lv_iload_n hx hb dX5_lastDay_4 rfl (lv_at hl 1 rfl) ?_
  refine rg_aldq (r := (15, j)) (v := va_rf ((lt_N (M 17) (M 18) (nI j) (nI p0.toNatClampNeg) (F 16).toNatClampNeg).map (fun j => ad (4, j)))) hx hb hK hP ((hrl _).mpr (vd_15 hj)) 7 en_15 rfl hw (by exact congrArg va_rf (if_pos (ib_cl hw).2)) dX5_lastDay_5 ?_
  rcases hN1 : lt_N (M 17) (M 18) (nI j) (nI p0.toNatClampNeg) (F 16).toNatClampNeg with _ | k2
  · refine W.eq (g2 := F0 m 6 ls (.null :: [])) rfl ?_
    refine lv_astore_nN (lv' := [(2, .null), (0, .ref (ad (5, j))), (1, .int p0)]) hx hb dX5_lastDay_6 rfl hl (by decide) rfl (fun ls hl => ?_)
    refine lv_aload_nN hx hb dX5_lastDay_7 rfl (lv_at hl 0 rfl) ?_
    refine lv_ifnonnullN hx hb dX5_lastDay_8 ?_
    refine lv_bipush (v := (-9)) hx hb dX5_lastDay_11 (by decide) ?_
    refine lv_goto (tgt := 20) hx hb dX5_lastDay_13 (by decide) ?_
    exact W.iret (v := (-9)) hx hb hr (fun t ht hW => ⟨(-9), rfl, by rw [← nI_b3 hw]; exact (lo_n hJ hN1).symm, ht⟩) (fun _ h => by cases h) dX5_lastDay_20
  · refine W.eq (g2 := F0 m 6 ls (.ref (ad (4, k2)) :: [])) rfl ?_
    refine lv_astore_n (lv' := [(2, .ref (ad (4, k2))), (0, .ref (ad (5, j))), (1, .int p0)]) hx hb dX5_lastDay_6 rfl hl (by decide) rfl (fun ls hl => ?_)
    refine lv_aload_n hx hb dX5_lastDay_7 rfl (lv_at hl 0 rfl) ?_
    refine lv_ifnonnull (tgt := 16) hx hb dX5_lastDay_8 (by decide) ?_
    refine lv_aload_n hx hb dX5_lastDay_16 rfl (lv_at hl 0 rfl) ?_
    refine rg_get (D := (dC, dI)) (r := (4, k2)) (ci := 4) (v := .int (M 19 k2)) (C := RX4) (T := TX4) (N := 3) hx hb hts hin4 hown hK hP ((hrl _).mpr (vd_4 (lt_lt hN1).1)) en_4 rfl 0 (by decide) (hts (.fieldLink RX5 50 "SocietyBook$Note" "day" "I") (by decide +kernel)) (fun _ h9 => h9) rfl dX5_lastDay_17 ?_
    exact W.iret (v := M 19 k2) hx hb hr (fun t ht hW => ⟨M 19 k2, rfl, by rw [← nI_b3 hw]; exact (lo_s hJ hN1).symm, ht⟩) (fun _ h => by cases h) dX5_lastDay_20


def dk_I (F : Nat → Int32) (M : Nat → Nat → Int32) (j : Nat) (p0 p1 : Int32) (x : Option Nat) : Prop := up_o x ≤ (F 16).toNatClampNeg ∧ s_X11_lastOf F M (nI j) p0 p1 = L_lastOf F M (nI j) p0 p1 (up_o x) ∧ ∀ k, x = some k → M 17 k = nI j ∧ M 18 k = p0
theorem dk_0n {F : Nat → Int32} {M : Nat → Nat → Int32} {j : Nat} {p0 p1 : Int32} (hw : vp_in p0 3) (h : lt_N (M 17) (M 18) (nI j) (nI p0.toNatClampNeg) (F 16).toNatClampNeg = none) : dk_I F M j p0 p1 none := by
  rw [nI_b3 hw] at h
  refine ⟨Nat.zero_le _, ?_, fun k q => by cases q⟩
  unfold s_X11_lastOf
  rw [lo_step, h]
  rfl
theorem dk_0s {F : Nat → Int32} {M : Nat → Nat → Int32} {j k : Nat} {p0 p1 : Int32} (hw : vp_in p0 3) (h : lt_N (M 17) (M 18) (nI j) (nI p0.toNatClampNeg) (F 16).toNatClampNeg = some k) : dk_I F M j p0 p1 (some k) := by
  rw [nI_b3 hw] at h
  have hl := lt_lt h
  refine ⟨hl.1, ?_, fun k2 q => by cases q; exact hl.2⟩
  unfold s_X11_lastOf
  rw [lo_step, h]
  rfl
theorem dk_c {F : Nat → Int32} {M : Nat → Nat → Int32} {j k : Nat} {p0 p1 : Int32} (hi : dk_I F M j p0 p1 (some k)) (c : ¬ M 20 k ≤ p1) : s_X11_lastOf F M (nI j) p0 p1 = L_lastOf F M (nI j) p0 p1 k := by
  rw [hi.2.1]
  show L_lastOf F M (nI j) p0 p1 (k + 1) = _
  have h := hi.2.2 k rfl
  rw [L_lastOf, if_pos h.1, if_pos h.2, if_pos (Int32.not_le.mp c)]
theorem dk_n {F : Nat → Int32} {M : Nat → Nat → Int32} {j k : Nat} {p0 p1 : Int32} (hi : dk_I F M j p0 p1 (some k)) (c : ¬ M 20 k ≤ p1) (h : lt_N (M 17) (M 18) (M 17 k) (M 18 k) k = none) : dk_I F M j p0 p1 none := by
  have h0 := hi.2.2 k rfl
  rw [h0.1, h0.2] at h
  refine ⟨Nat.zero_le _, ?_, fun k q => by cases q⟩
  rw [dk_c hi c, lo_step, h]
  rfl
theorem dk_s {F : Nat → Int32} {M : Nat → Nat → Int32} {j k k2 : Nat} {p0 p1 : Int32} (hi : dk_I F M j p0 p1 (some k)) (c : ¬ M 20 k ≤ p1) (h : lt_N (M 17) (M 18) (M 17 k) (M 18 k) k = some k2) : dk_I F M j p0 p1 (some k2) := by
  have h0 := hi.2.2 k rfl
  rw [h0.1, h0.2] at h
  have hl := lt_lt h
  have hk : k + 1 ≤ (F 16).toNatClampNeg := hi.1
  refine ⟨by show k2 + 1 ≤ _; omega, ?_, fun k3 q => by cases q; exact hl.2⟩
  rw [dk_c hi c, lo_step, h]
  rfl
theorem dk_e {F : Nat → Int32} {M : Nat → Nat → Int32} {j k : Nat} {p0 p1 : Int32} (hi : dk_I F M j p0 p1 (some k)) (c : M 20 k ≤ p1) : M 19 k = s_X11_lastOf F M (nI j) p0 p1 := by
  rw [hi.2.1]
  show _ = L_lastOf F M (nI j) p0 p1 (k + 1)
  have h := hi.2.2 k rfl
  rw [L_lastOf, if_pos h.1, if_pos h.2, if_neg (Int32.not_lt.mpr c)]
theorem dk_lt {F : Nat → Int32} {M : Nat → Nat → Int32} {j k : Nat} {p0 p1 : Int32} (hi : dk_I F M j p0 p1 (some k)) : k < (F 16).toNatClampNeg := hi.1

set_option maxHeartbeats 4000000 in
set_option maxRecDepth 100000 in
theorem c_X5_dayKnown (l : Launch) (dC : Nat → ClassId) (dI : Nat → Nat → Nat) (rl : List (Nat × Nat)) (ad : Nat × Nat → Nat) (cy : Nat → ClassId) (F : Nat → Int32) (M Y : Nat → Nat → Int32) (j : Nat) (p0 : Int32) (p1 : Int32) (hrl : ∀ r, r ∈ rl ↔ vd F r) (hI : iv F M) (hJ : jv F M) (hj : j < (F 7).toNatClampNeg) (hw : vp_in p0 3) : Met l yX5_dayKnown wsX5_dayKnown ({ frames := 0, cells := 0, slots := 0, locals := 0 } : Room) (va_Pc [.ref (ad (5, j)), .int p0, .int p1] (pC dC dI rl ad cy (eC ad cy F M Y))) (vp_Si (fun r => r = s_X11_lastOf F M (nI j) p0 p1)) 0 0 (fun _ => False) := by
  refine Met.ofW (cc := cX5_dayKnown) (maxL := 4) (ret := (some .int)) (by decide) rfl ?_
  intro p e s m args below meth c s₁ B hml hv
  obtain ⟨rfl, hP, hK, hN⟩ := hv
  have hx := B.exec
  have hb := B.bytes
  have hr := B.returns
  have hts := atoms_spec (ws := wsX5_dayKnown) B.pre
  have hown : s.vm.findClass RX5 = some m.cls := findClass_of_methodNamed B.named
  have hlocks := B.notSynchronized
  have hin4 : ∀ w ∈ wsX40, w ∈ wsX5_dayKnown := by decide +kernel
  have hin5 : ∀ w ∈ wsX50, w ∈ wsX5_dayKnown := by decide +kernel
  have hl := lv_entry ([.ref (ad (5, j)), .int p0, .int p1]) (n := 4) (Nat.le_of_ble_eq_true rfl)
  rw [lg_entry_eq]
  generalize (lg_sl ([.ref (ad (5, j)), .int p0, .int p1]) ++ List.replicate (4 - (lg_sl ([.ref (ad (5, j)), .int p0, .int p1])).length) Slot.unset).toArray = ls at hl ⊢
  have hl : lv_has ls 4 [(0, .ref (ad (5, j))), (1, .int p0), (2, .int p1)] := hl
  refine lv_aload_n hx hb dX5_dayKnown_0 rfl (lv_at hl 0 rfl) ?_
  refine rg_get (D := (dC, dI)) (r := (5, j)) (ci := 5) (v := .ref (ad (15, j))) (C := RX5) (T := TX5) (N := 9) hx hb hts hin5 hown hK hP ((hrl _).mpr (vd_5 hj)) en_5 rfl 8 (by decide) (hts (.fieldLink RX5 26 "SocietyBook$Paper" "lastNotes" "[LSocietyBook$Note;") (by decide +kernel)) (fun _ h9 => h9) rfl dX5_dayKnown_1 ?_
  refine lv_iload_n hx hb dX5_dayKnown_4 rfl (lv_at hl 1 rfl) ?_
  refine rg_aldq (r := (15, j)) (v := va_rf ((lt_N (M 17) (M 18) (nI j) (nI p0.toNatClampNeg) (F 16).toNatClampNeg).map (fun j => ad (4, j)))) hx hb hK hP ((hrl _).mpr (vd_15 hj)) 7 en_15 rfl hw (by exact congrArg va_rf (if_pos (ib_cl hw).2)) dX5_dayKnown_5 ?_
  rcases hN1 : lt_N (M 17) (M 18) (nI j) (nI p0.toNatClampNeg) (F 16).toNatClampNeg with _ | k2
  · refine W.eq (g2 := F0 m 6 ls (.null :: [])) rfl ?_
    refine lv_astore_nN (lv' := [(3, .null), (0, .ref (ad (5, j))), (1, .int p0), (2, .int p1)]) hx hb dX5_dayKnown_6 rfl hl (by decide) rfl (fun ls hl => ?_)
    refine lp_wh (nL := 4) up_o (fun x => [(3, va_rf (x.map (fun j => ad (4, j)))), (0, .ref (ad (5, j))), (1, .int p0), (2, .int p1)]) (dk_I F M j p0 p1) (fun x hi9 ls hl kk9 => ?_) (none) (dk_0n hw hN1) ls (lv_sub hl [0, 1, 2, 3] rfl)
    rcases x with _ | k9
    · replace hl : lv_has ls 4 [(3, .null), (0, .ref (ad (5, j))), (1, .int p0), (2, .int p1)] := hl
      refine lv_aload_nN hx hb dX5_dayKnown_7 rfl (lv_at hl 0 rfl) ?_
      refine lv_ifnullN (tgt := 27) hx hb dX5_dayKnown_8 (by decide) ?_
      refine lv_aload_nN hx hb dX5_dayKnown_27 rfl (lv_at hl 0 rfl) ?_
      refine lv_ifnonnullN hx hb dX5_dayKnown_28 ?_
      refine lv_bipush (v := (-9)) hx hb dX5_dayKnown_31 (by decide) ?_
      refine lv_goto (tgt := 40) hx hb dX5_dayKnown_33 (by decide) ?_
      exact W.iret (v := (-9)) hx hb hr (fun t ht hW => ⟨(-9), rfl, by exact hi9.2.1.symm, ht⟩) (fun _ h => by cases h) dX5_dayKnown_40
    · replace hl : lv_has ls 4 [(3, .ref (ad (4, k9))), (0, .ref (ad (5, j))), (1, .int p0), (2, .int p1)] := hl
      refine lv_aload_n hx hb dX5_dayKnown_7 rfl (lv_at hl 0 rfl) ?_
      refine lv_ifnull hx hb dX5_dayKnown_8 ?_
      refine lv_aload_n hx hb dX5_dayKnown_11 rfl (lv_at hl 0 rfl) ?_
      refine rg_get (D := (dC, dI)) (r := (4, k9)) (ci := 4) (v := .int (M 20 k9)) (C := RX4) (T := TX4) (N := 3) hx hb hts hin4 hown hK hP ((hrl _).mpr (vd_4 ((dk_lt hi9)))) en_4 rfl 1 (by decide) (hts (.fieldLink RX5 53 "SocietyBook$Note" "toldOn" "I") (by decide +kernel)) (fun _ h9 => h9) rfl dX5_dayKnown_12 ?_
      refine lv_iload_n hx hb dX5_dayKnown_15 rfl (lv_at hl 3 rfl) ?_
      refine lv_icmp_le (tgt := 27) hx hb dX5_dayKnown_16 (by decide) (fun c3 => ?_) (fun c3 => ?_)
      · refine lv_aload_n hx hb dX5_dayKnown_27 rfl (lv_at hl 0 rfl) ?_
        refine lv_ifnonnull (tgt := 36) hx hb dX5_dayKnown_28 (by decide) ?_
        refine lv_aload_n hx hb dX5_dayKnown_36 rfl (lv_at hl 0 rfl) ?_
        refine rg_get (D := (dC, dI)) (r := (4, k9)) (ci := 4) (v := .int (M 19 k9)) (C := RX4) (T := TX4) (N := 3) hx hb hts hin4 hown hK hP ((hrl _).mpr (vd_4 ((dk_lt hi9)))) en_4 rfl 0 (by decide) (hts (.fieldLink RX5 50 "SocietyBook$Note" "day" "I") (by decide +kernel)) (fun _ h9 => h9) rfl dX5_dayKnown_37 ?_
        exact W.iret (v := M 19 k9) hx hb hr (fun t ht hW => ⟨M 19 k9, rfl, by exact dk_e hi9 c3, ht⟩) (fun _ h => by cases h) dX5_dayKnown_40
      · refine lv_aload_n hx hb dX5_dayKnown_19 rfl (lv_at hl 0 rfl) ?_
        refine rg_get (D := (dC, dI)) (r := (4, k9)) (ci := 4) (v := va_rf ((lt_N (M 17) (M 18) (M 17 k9) (M 18 k9) k9).map (fun j => ad (4, j)))) (C := RX4) (T := TX4) (N := 3) hx hb hts hin4 hown hK hP ((hrl _).mpr (vd_4 ((dk_lt hi9)))) en_4 rfl 2 (by decide) (hts (.fieldLink RX5 54 "SocietyBook$Note" "earlier" "LSocietyBook$Note;") (by decide +kernel)) (fun _ h9 => h9) rfl dX5_dayKnown_20 ?_
        rcases hN4 : lt_N (M 17) (M 18) (M 17 k9) (M 18 k9) k9 with _ | k5
        · refine W.eq (g2 := F0 m 23 ls (.null :: [])) rfl ?_
          refine lv_astore_nN (lv' := [(3, .null), (0, .ref (ad (5, j))), (1, .int p0), (2, .int p1)]) hx hb dX5_dayKnown_23 rfl hl (by decide) rfl (fun ls hl => ?_)
          refine lv_goto (tgt := 7) hx hb dX5_dayKnown_24 (by decide) ?_
          exact kk9 (none) (dk_n hi9 c3 hN4) (Nat.succ_pos _) ls (lv_sub hl [0, 1, 2, 3] rfl)
        · refine W.eq (g2 := F0 m 23 ls (.ref (ad (4, k5)) :: [])) rfl ?_
          refine lv_astore_n (lv' := [(3, .ref (ad (4, k5))), (0, .ref (ad (5, j))), (1, .int p0), (2, .int p1)]) hx hb dX5_dayKnown_23 rfl hl (by decide) rfl (fun ls hl => ?_)
          refine lv_goto (tgt := 7) hx hb dX5_dayKnown_24 (by decide) ?_
          exact kk9 (some k5) (dk_s hi9 c3 hN4) (Nat.succ_lt_succ (lt_lt hN4).1) ls (lv_sub hl [0, 1, 2, 3] rfl)
  · refine W.eq (g2 := F0 m 6 ls (.ref (ad (4, k2)) :: [])) rfl ?_
    refine lv_astore_n (lv' := [(3, .ref (ad (4, k2))), (0, .ref (ad (5, j))), (1, .int p0), (2, .int p1)]) hx hb dX5_dayKnown_6 rfl hl (by decide) rfl (fun ls hl => ?_)
    refine lp_wh (nL := 4) up_o (fun x => [(3, va_rf (x.map (fun j => ad (4, j)))), (0, .ref (ad (5, j))), (1, .int p0), (2, .int p1)]) (dk_I F M j p0 p1) (fun x hi9 ls hl kk9 => ?_) (some k2) (dk_0s hw hN1) ls (lv_sub hl [0, 1, 2, 3] rfl)
    rcases x with _ | k9
    · replace hl : lv_has ls 4 [(3, .null), (0, .ref (ad (5, j))), (1, .int p0), (2, .int p1)] := hl
      refine lv_aload_nN hx hb dX5_dayKnown_7 rfl (lv_at hl 0 rfl) ?_
      refine lv_ifnullN (tgt := 27) hx hb dX5_dayKnown_8 (by decide) ?_
      refine lv_aload_nN hx hb dX5_dayKnown_27 rfl (lv_at hl 0 rfl) ?_
      refine lv_ifnonnullN hx hb dX5_dayKnown_28 ?_
      refine lv_bipush (v := (-9)) hx hb dX5_dayKnown_31 (by decide) ?_
      refine lv_goto (tgt := 40) hx hb dX5_dayKnown_33 (by decide) ?_
      exact W.iret (v := (-9)) hx hb hr (fun t ht hW => ⟨(-9), rfl, by exact hi9.2.1.symm, ht⟩) (fun _ h => by cases h) dX5_dayKnown_40
    · replace hl : lv_has ls 4 [(3, .ref (ad (4, k9))), (0, .ref (ad (5, j))), (1, .int p0), (2, .int p1)] := hl
      refine lv_aload_n hx hb dX5_dayKnown_7 rfl (lv_at hl 0 rfl) ?_
      refine lv_ifnull hx hb dX5_dayKnown_8 ?_
      refine lv_aload_n hx hb dX5_dayKnown_11 rfl (lv_at hl 0 rfl) ?_
      refine rg_get (D := (dC, dI)) (r := (4, k9)) (ci := 4) (v := .int (M 20 k9)) (C := RX4) (T := TX4) (N := 3) hx hb hts hin4 hown hK hP ((hrl _).mpr (vd_4 ((dk_lt hi9)))) en_4 rfl 1 (by decide) (hts (.fieldLink RX5 53 "SocietyBook$Note" "toldOn" "I") (by decide +kernel)) (fun _ h9 => h9) rfl dX5_dayKnown_12 ?_
      refine lv_iload_n hx hb dX5_dayKnown_15 rfl (lv_at hl 3 rfl) ?_
      refine lv_icmp_le (tgt := 27) hx hb dX5_dayKnown_16 (by decide) (fun c6 => ?_) (fun c6 => ?_)
      · refine lv_aload_n hx hb dX5_dayKnown_27 rfl (lv_at hl 0 rfl) ?_
        refine lv_ifnonnull (tgt := 36) hx hb dX5_dayKnown_28 (by decide) ?_
        refine lv_aload_n hx hb dX5_dayKnown_36 rfl (lv_at hl 0 rfl) ?_
        refine rg_get (D := (dC, dI)) (r := (4, k9)) (ci := 4) (v := .int (M 19 k9)) (C := RX4) (T := TX4) (N := 3) hx hb hts hin4 hown hK hP ((hrl _).mpr (vd_4 ((dk_lt hi9)))) en_4 rfl 0 (by decide) (hts (.fieldLink RX5 50 "SocietyBook$Note" "day" "I") (by decide +kernel)) (fun _ h9 => h9) rfl dX5_dayKnown_37 ?_
        exact W.iret (v := M 19 k9) hx hb hr (fun t ht hW => ⟨M 19 k9, rfl, by exact dk_e hi9 c6, ht⟩) (fun _ h => by cases h) dX5_dayKnown_40
      · refine lv_aload_n hx hb dX5_dayKnown_19 rfl (lv_at hl 0 rfl) ?_
        refine rg_get (D := (dC, dI)) (r := (4, k9)) (ci := 4) (v := va_rf ((lt_N (M 17) (M 18) (M 17 k9) (M 18 k9) k9).map (fun j => ad (4, j)))) (C := RX4) (T := TX4) (N := 3) hx hb hts hin4 hown hK hP ((hrl _).mpr (vd_4 ((dk_lt hi9)))) en_4 rfl 2 (by decide) (hts (.fieldLink RX5 54 "SocietyBook$Note" "earlier" "LSocietyBook$Note;") (by decide +kernel)) (fun _ h9 => h9) rfl dX5_dayKnown_20 ?_
        rcases hN7 : lt_N (M 17) (M 18) (M 17 k9) (M 18 k9) k9 with _ | k8
        · refine W.eq (g2 := F0 m 23 ls (.null :: [])) rfl ?_
          refine lv_astore_nN (lv' := [(3, .null), (0, .ref (ad (5, j))), (1, .int p0), (2, .int p1)]) hx hb dX5_dayKnown_23 rfl hl (by decide) rfl (fun ls hl => ?_)
          refine lv_goto (tgt := 7) hx hb dX5_dayKnown_24 (by decide) ?_
          exact kk9 (none) (dk_n hi9 c6 hN7) (Nat.succ_pos _) ls (lv_sub hl [0, 1, 2, 3] rfl)
        · refine W.eq (g2 := F0 m 23 ls (.ref (ad (4, k8)) :: [])) rfl ?_
          refine lv_astore_n (lv' := [(3, .ref (ad (4, k8))), (0, .ref (ad (5, j))), (1, .int p0), (2, .int p1)]) hx hb dX5_dayKnown_23 rfl hl (by decide) rfl (fun ls hl => ?_)
          refine lv_goto (tgt := 7) hx hb dX5_dayKnown_24 (by decide) ?_
          exact kk9 (some k8) (dk_s hi9 c6 hN7) (Nat.succ_lt_succ (lt_lt hN7).1) ls (lv_sub hl [0, 1, 2, 3] rfl)


theorem no_06 {x : Int32} (c0 : ¬ x = 0) (c1 : ¬ x = 1) (c2 : ¬ x = 2) (c3 : ¬ x = 3) (c4 : ¬ x = 4) (c5 : ¬ x = 5) (c6 : ¬ x = 6) : ¬ (0 ≤ x ∧ x ≤ 6) := by
  intro q
  have h := ts_out7 c0 c1 c2 c3 c4 c5 c6
  have h1 := ib_le.mp q.1
  have h2 := ib_le.mp q.2
  have e6 : (6 : Int32).toInt = 6 := by decide
  rw [ib_0] at h1
  rw [e6] at h2
  omega

set_option maxHeartbeats 4000000 in
set_option maxRecDepth 100000 in
theorem c_X10_told (l : Launch) (dC : Nat → ClassId) (dI : Nat → Nat → Nat) (rl : List (Nat × Nat)) (ad : Nat × Nat → Nat) (cy : Nat → ClassId) (F : Nat → Int32) (M Y : Nat → Nat → Int32) (p0 : Int32) (p1 : Int32) (hrl : ∀ r, r ∈ rl ↔ vd F r) (hI : iv F M) (hJ : jv F M) : Met l yX10_told wsX10_told ({ frames := 2, cells := 0, slots := 0, locals := 43 } : Room) (va_Pc [.ref (ad (9, 0)), .int p0, .int p1] (pC dC dI rl ad cy (eC ad cy F M Y))) (vp_Si (fun r => r = (s_X11_told F M p0 p1))) 0 0 (fun _ => False) := by
  refine Met.ofW (cc := cX10_told) (maxL := 4) (ret := (some .int)) (by decide) rfl ?_
  intro p e s m args below meth c s₁ B hml hv
  obtain ⟨rfl, hP, hK, hN⟩ := hv
  have hx := B.exec
  have hb := B.bytes
  have hr := B.returns
  have hts := atoms_spec (ws := wsX10_told) B.pre
  have hown : s.vm.findClass RX10 = some m.cls := findClass_of_methodNamed B.named
  have hlocks := B.notSynchronized
  have hin5 : ∀ w ∈ wsX50, w ∈ wsX10_told := by decide +kernel
  have hl := lv_entry ([.ref (ad (9, 0)), .int p0, .int p1]) (n := 4) (Nat.le_of_ble_eq_true rfl)
  rw [lg_entry_eq]
  generalize (lg_sl ([.ref (ad (9, 0)), .int p0, .int p1]) ++ List.replicate (4 - (lg_sl ([.ref (ad (9, 0)), .int p0, .int p1])).length) Slot.unset).toArray = ls at hl ⊢
  have hl : lv_has ls 4 [(0, .ref (ad (9, 0))), (1, .int p0), (2, .int p1)] := hl
  refine lv_aload_n hx hb dX10_told_0 rfl (lv_at hl 0 rfl) ?_
  refine lv_iload_n hx hb dX10_told_1 rfl (lv_at hl 1 rfl) ?_
  refine va_csq (W.runV (As := [.int p0]) (rest := []) ⟨hx, hb, hml, hown, hts⟩ (c_X10_paperAt l dC dI rl ad cy F M Y  p0 hrl hI hJ ) (cwV 1 hts gX10_told_X10_paperAt rfl rfl rfl (by decide +kernel) ⟨Nat.le_of_ble_eq_true rfl, Nat.le_of_ble_eq_true rfl⟩) ⟨pc_blind, rg_recv hK hP ((hrl _).mpr (vd_9 (by decide))) (ci := 9) rfl en_9, fun U hU hW => ⟨rfl, by rw [hU]; exact hP, va_K.moved hW.alike hK, nst_w hW hN⟩⟩ rfl rfl hl.1 rfl (lv_room (Nat.le_of_ble_eq_true rfl)) dX10_told_2 ⟨Nat.zero_le _, Nat.zero_le _⟩) (fun r hr9 => ?_)
  subst hr9
  by_cases c1 : 0 ≤ p0 ∧ p0 ≤ ((F 7) - 1)
  · rw [if_pos c1]
    refine W.eq (g2 := F0 m 5 ls (.ref (ad (5, p0.toNatClampNeg)) :: [])) rfl ?_
    refine lv_astore_n (lv' := [(3, .ref (ad (5, p0.toNatClampNeg))), (0, .ref (ad (9, 0))), (1, .int p0), (2, .int p1)]) hx hb dX10_told_5 rfl hl (by decide) rfl (fun ls hl => ?_)
    refine lv_aload_n hx hb dX10_told_6 rfl (lv_at hl 0 rfl) ?_
    refine lv_ifnonnull (tgt := 12) hx hb dX10_told_7 (by decide) ?_
    refine lv_iload_n hx hb dX10_told_12 rfl (lv_at hl 3 rfl) ?_
    by_cases c2 : p1 = 0
    · refine lv_tableIn (tgt := 56) (off := 43) hx hb dX10_told_13 (by rw [c2]; decide) (by rw [c2]; decide) (by rw [c2]; decide +kernel) (by decide) ?_
      refine lv_aload_n hx hb dX10_told_56 rfl (lv_at hl 0 rfl) ?_
      refine rg_get (D := (dC, dI)) (r := (5, p0.toNatClampNeg)) (ci := 5) (v := .int (M 8 p0.toNatClampNeg)) (C := RX5) (T := TX5) (N := 9) hx hb hts hin5 hown hK hP ((hrl _).mpr (vd_5 (ix_cn c1 (iv_7 hI).1))) en_5 rfl 0 (by decide) (hts (.fieldLink RX10 124 "SocietyBook$Paper" "kind" "I") (by decide +kernel)) (fun _ h9 => h9) rfl dX10_told_57 ?_
      exact W.iret (v := M 8 p0.toNatClampNeg) hx hb hr (fun t ht hW => ⟨M 8 p0.toNatClampNeg, rfl, by unfold s_X11_told; rw [if_pos c1]; rw [if_pos (show 0 ≤ p1 ∧ p1 ≤ 6 from by rw [c2]; decide)]; unfold s_X11_toldOf; rw [c2]; rfl, ht⟩) (fun _ h => by cases h) dX10_told_60
    · by_cases c3 : p1 = 1
      · refine lv_tableIn (tgt := 61) (off := 48) hx hb dX10_told_13 (by rw [c3]; decide) (by rw [c3]; decide) (by rw [c3]; decide +kernel) (by decide) ?_
        refine lv_aload_n hx hb dX10_told_61 rfl (lv_at hl 0 rfl) ?_
        refine rg_get (D := (dC, dI)) (r := (5, p0.toNatClampNeg)) (ci := 5) (v := .int (M 9 p0.toNatClampNeg)) (C := RX5) (T := TX5) (N := 9) hx hb hts hin5 hown hK hP ((hrl _).mpr (vd_5 (ix_cn c1 (iv_7 hI).1))) en_5 rfl 1 (by decide) (hts (.fieldLink RX10 121 "SocietyBook$Paper" "author" "I") (by decide +kernel)) (fun _ h9 => h9) rfl dX10_told_62 ?_
        exact W.iret (v := M 9 p0.toNatClampNeg) hx hb hr (fun t ht hW => ⟨M 9 p0.toNatClampNeg, rfl, by unfold s_X11_told; rw [if_pos c1]; rw [if_pos (show 0 ≤ p1 ∧ p1 ≤ 6 from by rw [c3]; decide)]; unfold s_X11_toldOf; rw [c3]; rfl, ht⟩) (fun _ h => by cases h) dX10_told_65
      · by_cases c4 : p1 = 2
        · refine lv_tableIn (tgt := 66) (off := 53) hx hb dX10_told_13 (by rw [c4]; decide) (by rw [c4]; decide) (by rw [c4]; decide +kernel) (by decide) ?_
          refine lv_aload_n hx hb dX10_told_66 rfl (lv_at hl 0 rfl) ?_
          refine rg_get (D := (dC, dI)) (r := (5, p0.toNatClampNeg)) (ci := 5) (v := .int (M 10 p0.toNatClampNeg)) (C := RX5) (T := TX5) (N := 9) hx hb hts hin5 hown hK hP ((hrl _).mpr (vd_5 (ix_cn c1 (iv_7 hI).1))) en_5 rfl 2 (by decide) (hts (.fieldLink RX10 134 "SocietyBook$Paper" "claims" "I") (by decide +kernel)) (fun _ h9 => h9) rfl dX10_told_67 ?_
          exact W.iret (v := M 10 p0.toNatClampNeg) hx hb hr (fun t ht hW => ⟨M 10 p0.toNatClampNeg, rfl, by unfold s_X11_told; rw [if_pos c1]; rw [if_pos (show 0 ≤ p1 ∧ p1 ≤ 6 from by rw [c4]; decide)]; unfold s_X11_toldOf; rw [c4]; rfl, ht⟩) (fun _ h => by cases h) dX10_told_70
        · by_cases c5 : p1 = 3
          · refine lv_tableIn (tgt := 71) (off := 58) hx hb dX10_told_13 (by rw [c5]; decide) (by rw [c5]; decide) (by rw [c5]; decide +kernel) (by decide) ?_
            refine lv_aload_n hx hb dX10_told_71 rfl (lv_at hl 0 rfl) ?_
            refine rg_get (D := (dC, dI)) (r := (5, p0.toNatClampNeg)) (ci := 5) (v := .int (M 11 p0.toNatClampNeg)) (C := RX5) (T := TX5) (N := 9) hx hb hts hin5 hown hK hP ((hrl _).mpr (vd_5 (ix_cn c1 (iv_7 hI).1))) en_5 rfl 3 (by decide) (hts (.fieldLink RX10 137 "SocietyBook$Paper" "toldOn" "I") (by decide +kernel)) (fun _ h9 => h9) rfl dX10_told_72 ?_
            exact W.iret (v := M 11 p0.toNatClampNeg) hx hb hr (fun t ht hW => ⟨M 11 p0.toNatClampNeg, rfl, by unfold s_X11_told; rw [if_pos c1]; rw [if_pos (show 0 ≤ p1 ∧ p1 ≤ 6 from by rw [c5]; decide)]; unfold s_X11_toldOf; rw [c5]; rfl, ht⟩) (fun _ h => by cases h) dX10_told_75
          · by_cases c6 : p1 = 4
            · refine lv_tableIn (tgt := 76) (off := 63) hx hb dX10_told_13 (by rw [c6]; decide) (by rw [c6]; decide) (by rw [c6]; decide +kernel) (by decide) ?_
              refine lv_aload_n hx hb dX10_told_76 rfl (lv_at hl 0 rfl) ?_
              refine lv_iconst (v := 0) hx hb dX10_told_77 (by decide) ?_
              refine vp_callSi (W.runV (As := [.int 0]) (rest := []) ⟨hx, hb, hml, hown, hts⟩ (c_X5_lastDay l dC dI rl ad cy F M Y p0.toNatClampNeg 0 hrl hI hJ (ix_cn c1 (iv_7 hI).1) (ib_lit (by decide))) (cwV 1 hts gX10_told_X5_lastDay rfl rfl rfl (by decide +kernel) ⟨Nat.le_of_ble_eq_true rfl, Nat.le_of_ble_eq_true rfl⟩) ⟨pc_blind, rg_recv hK hP ((hrl _).mpr (vd_5 (ix_cn c1 (iv_7 hI).1))) (ci := 5) rfl en_5, fun U hU hW => ⟨rfl, by rw [hU]; exact hP, va_K.moved hW.alike hK, nst_w hW hN⟩⟩ rfl rfl hl.1 rfl (lv_room (Nat.le_of_ble_eq_true rfl)) dX10_told_78 ⟨Nat.zero_le _, Nat.zero_le _⟩) (fun r hr9 => ?_)
              subst hr9
              rw [nI_bk (x := p0) c1.1]
              exact W.iret (v := s_X11_lastOf F M p0 0 30000) hx hb hr (fun t ht hW => ⟨s_X11_lastOf F M p0 0 30000, rfl, by unfold s_X11_told; rw [if_pos c1]; rw [if_pos (show 0 ≤ p1 ∧ p1 ≤ 6 from by rw [c6]; decide)]; unfold s_X11_toldOf; rw [c6]; rfl, ht⟩) (fun _ h => by cases h) dX10_told_81
            · by_cases c7 : p1 = 5
              · refine lv_tableIn (tgt := 82) (off := 69) hx hb dX10_told_13 (by rw [c7]; decide) (by rw [c7]; decide) (by rw [c7]; decide +kernel) (by decide) ?_
                refine lv_aload_n hx hb dX10_told_82 rfl (lv_at hl 0 rfl) ?_
                refine lv_iconst (v := 1) hx hb dX10_told_83 (by decide) ?_
                refine vp_callSi (W.runV (As := [.int 1]) (rest := []) ⟨hx, hb, hml, hown, hts⟩ (c_X5_lastDay l dC dI rl ad cy F M Y p0.toNatClampNeg 1 hrl hI hJ (ix_cn c1 (iv_7 hI).1) (ib_lit (by decide))) (cwV 1 hts gX10_told_X5_lastDay rfl rfl rfl (by decide +kernel) ⟨Nat.le_of_ble_eq_true rfl, Nat.le_of_ble_eq_true rfl⟩) ⟨pc_blind, rg_recv hK hP ((hrl _).mpr (vd_5 (ix_cn c1 (iv_7 hI).1))) (ci := 5) rfl en_5, fun U hU hW => ⟨rfl, by rw [hU]; exact hP, va_K.moved hW.alike hK, nst_w hW hN⟩⟩ rfl rfl hl.1 rfl (lv_room (Nat.le_of_ble_eq_true rfl)) dX10_told_84 ⟨Nat.zero_le _, Nat.zero_le _⟩) (fun r hr9 => ?_)
                subst hr9
                rw [nI_bk (x := p0) c1.1]
                exact W.iret (v := s_X11_lastOf F M p0 1 30000) hx hb hr (fun t ht hW => ⟨s_X11_lastOf F M p0 1 30000, rfl, by unfold s_X11_told; rw [if_pos c1]; rw [if_pos (show 0 ≤ p1 ∧ p1 ≤ 6 from by rw [c7]; decide)]; unfold s_X11_toldOf; rw [c7]; rfl, ht⟩) (fun _ h => by cases h) dX10_told_87
              · by_cases c8 : p1 = 6
                · refine lv_tableIn (tgt := 88) (off := 75) hx hb dX10_told_13 (by rw [c8]; decide) (by rw [c8]; decide) (by rw [c8]; decide +kernel) (by decide) ?_
                  refine lv_aload_n hx hb dX10_told_88 rfl (lv_at hl 0 rfl) ?_
                  refine lv_iconst (v := 2) hx hb dX10_told_89 (by decide) ?_
                  refine vp_callSi (W.runV (As := [.int 2]) (rest := []) ⟨hx, hb, hml, hown, hts⟩ (c_X5_lastDay l dC dI rl ad cy F M Y p0.toNatClampNeg 2 hrl hI hJ (ix_cn c1 (iv_7 hI).1) (ib_lit (by decide))) (cwV 1 hts gX10_told_X5_lastDay rfl rfl rfl (by decide +kernel) ⟨Nat.le_of_ble_eq_true rfl, Nat.le_of_ble_eq_true rfl⟩) ⟨pc_blind, rg_recv hK hP ((hrl _).mpr (vd_5 (ix_cn c1 (iv_7 hI).1))) (ci := 5) rfl en_5, fun U hU hW => ⟨rfl, by rw [hU]; exact hP, va_K.moved hW.alike hK, nst_w hW hN⟩⟩ rfl rfl hl.1 rfl (lv_room (Nat.le_of_ble_eq_true rfl)) dX10_told_90 ⟨Nat.zero_le _, Nat.zero_le _⟩) (fun r hr9 => ?_)
                  subst hr9
                  rw [nI_bk (x := p0) c1.1]
                  exact W.iret (v := s_X11_lastOf F M p0 2 30000) hx hb hr (fun t ht hW => ⟨s_X11_lastOf F M p0 2 30000, rfl, by unfold s_X11_told; rw [if_pos c1]; rw [if_pos (show 0 ≤ p1 ∧ p1 ≤ 6 from by rw [c8]; decide)]; unfold s_X11_toldOf; rw [c8]; rfl, ht⟩) (fun _ h => by cases h) dX10_told_93
                · refine lv_tableOut (tgt := 94) hx hb dX10_told_13 (ts_out7 c2 c3 c4 c5 c6 c7 c8) (by decide) ?_
                  refine lv_iconst (v := (-1)) hx hb dX10_told_94 (by decide) ?_
                  exact W.iret (v := (-1)) hx hb hr (fun t ht hW => ⟨(-1), rfl, by unfold s_X11_told; rw [if_pos c1]; rw [if_neg (show ¬ (0 ≤ p1 ∧ p1 ≤ 6) from no_06 c2 c3 c4 c5 c6 c7 c8)], ht⟩) (fun _ h => by cases h) dX10_told_95
  · rw [if_neg c1]
    refine W.eq (g2 := F0 m 5 ls (.null :: [])) rfl ?_
    refine lv_astore_nN (lv' := [(3, .null), (0, .ref (ad (9, 0))), (1, .int p0), (2, .int p1)]) hx hb dX10_told_5 rfl hl (by decide) rfl (fun ls hl => ?_)
    refine lv_aload_nN hx hb dX10_told_6 rfl (lv_at hl 0 rfl) ?_
    refine lv_ifnonnullN hx hb dX10_told_7 ?_
    refine lv_iconst (v := (-1)) hx hb dX10_told_10 (by decide) ?_
    exact W.iret (v := (-1)) hx hb hr (fun t ht hW => ⟨(-1), rfl, by unfold s_X11_told; rw [if_neg c1], ht⟩) (fun _ h => by cases h) dX10_told_11

set_option maxHeartbeats 4000000 in
set_option maxRecDepth 100000 in
theorem c_X10_known (l : Launch) (dC : Nat → ClassId) (dI : Nat → Nat → Nat) (rl : List (Nat × Nat)) (ad : Nat × Nat → Nat) (cy : Nat → ClassId) (F : Nat → Int32) (M Y : Nat → Nat → Int32) (p0 : Int32) (p1 : Int32) (p2 : Int32) (hrl : ∀ r, r ∈ rl ↔ vd F r) (hI : iv F M) (hJ : jv F M) : Met l yX10_known wsX10_known ({ frames := 2, cells := 0, slots := 0, locals := 43 } : Room) (va_Pc [.ref (ad (9, 0)), .int p0, .int p1, .int p2] (pC dC dI rl ad cy (eC ad cy F M Y))) (vp_Si (fun r => r = (s_X11_known F M p0 p1 p2))) 0 0 (fun _ => False) := by
  refine Met.ofW (cc := cX10_known) (maxL := 5) (ret := (some .int)) (by decide) rfl ?_
  intro p e s m args below meth c s₁ B hml hv
  obtain ⟨rfl, hP, hK, hN⟩ := hv
  have hx := B.exec
  have hb := B.bytes
  have hr := B.returns
  have hts := atoms_spec (ws := wsX10_known) B.pre
  have hown : s.vm.findClass RX10 = some m.cls := findClass_of_methodNamed B.named
  have hlocks := B.notSynchronized
  have hl := lv_entry ([.ref (ad (9, 0)), .int p0, .int p1, .int p2]) (n := 5) (Nat.le_of_ble_eq_true rfl)
  rw [lg_entry_eq]
  generalize (lg_sl ([.ref (ad (9, 0)), .int p0, .int p1, .int p2]) ++ List.replicate (5 - (lg_sl ([.ref (ad (9, 0)), .int p0, .int p1, .int p2])).length) Slot.unset).toArray = ls at hl ⊢
  have hl : lv_has ls 5 [(0, .ref (ad (9, 0))), (1, .int p0), (2, .int p1), (3, .int p2)] := hl
  refine lv_aload_n hx hb dX10_known_0 rfl (lv_at hl 0 rfl) ?_
  refine lv_iload_n hx hb dX10_known_1 rfl (lv_at hl 1 rfl) ?_
  refine va_csq (W.runV (As := [.int p0]) (rest := []) ⟨hx, hb, hml, hown, hts⟩ (c_X10_paperAt l dC dI rl ad cy F M Y  p0 hrl hI hJ ) (cwV 1 hts gX10_known_X10_paperAt rfl rfl rfl (by decide +kernel) ⟨Nat.le_of_ble_eq_true rfl, Nat.le_of_ble_eq_true rfl⟩) ⟨pc_blind, rg_recv hK hP ((hrl _).mpr (vd_9 (by decide))) (ci := 9) rfl en_9, fun U hU hW => ⟨rfl, by rw [hU]; exact hP, va_K.moved hW.alike hK, nst_w hW hN⟩⟩ rfl rfl hl.1 rfl (lv_room (Nat.le_of_ble_eq_true rfl)) dX10_known_2 ⟨Nat.zero_le _, Nat.zero_le _⟩) (fun r hr9 => ?_)
  subst hr9
  by_cases c1 : 0 ≤ p0 ∧ p0 ≤ ((F 7) - 1)
  · rw [if_pos c1]
    refine W.eq (g2 := F0 m 5 ls (.ref (ad (5, p0.toNatClampNeg)) :: [])) rfl ?_
    refine lv_astore (lv' := [(4, .ref (ad (5, p0.toNatClampNeg))), (0, .ref (ad (9, 0))), (1, .int p0), (2, .int p1), (3, .int p2)]) hx hb dX10_known_5 hl (by decide) rfl (fun ls hl => ?_)
    refine lv_aload hx hb dX10_known_7 (lv_at hl 0 rfl) ?_
    refine lv_ifnull hx hb dX10_known_9 ?_
    refine lv_iload_n hx hb dX10_known_12 rfl (lv_at hl 3 rfl) ?_
    refine lv_iconst (v := 0) hx hb dX10_known_13 (by decide) ?_
    refine lv_iconst (v := 2) hx hb dX10_known_14 (by decide) ?_
    refine vp_callSi (W.runS (As := [.int p1, .int 0, .int 2]) (rest := []) ⟨hx, hb, hml, hown, hts⟩ (c_X10_isWithin l p1 0 2) (va_cwS 3 hts gX10_known_X10_isWithin rfl rfl rfl (by decide +kernel) ⟨Nat.le_of_ble_eq_true rfl, Nat.le_of_ble_eq_true rfl⟩) ⟨fun _ _ _ _ q => q, fun U hU hW => ⟨rfl, trivial⟩⟩ rfl rfl hl.1 rfl (lv_room (Nat.le_of_ble_eq_true rfl)) dX10_known_15 ⟨Nat.zero_le _, Nat.zero_le _⟩) (fun r hr9 => ?_)
    subst hr9
    refine lv_if_eq (tgt := 28) hx hb dX10_known_18 (by decide) (fun c2 => ?_) (fun c2 => ?_)
    · replace c2 := bo_f c2
      refine lv_iconst (v := (-1)) hx hb dX10_known_28 (by decide) ?_
      exact W.iret (v := (-1)) hx hb hr (fun t ht hW => ⟨(-1), rfl, by unfold s_X11_known; rw [if_pos c1]; rw [if_neg c2], ht⟩) (fun _ h => by cases h) dX10_known_29
    · replace c2 := bo_t c2
      refine lv_iload_n hx hb dX10_known_21 rfl (lv_at hl 4 rfl) ?_
      refine vp_callSi (W.runS (As := [.int p2]) (rest := []) ⟨hx, hb, hml, hown, hts⟩ (c_X10_isDay l p2) (va_cwS 1 hts gX10_known_X10_isDay rfl rfl rfl (by decide +kernel) ⟨Nat.le_of_ble_eq_true rfl, Nat.le_of_ble_eq_true rfl⟩) ⟨fun _ _ _ _ q => q, fun U hU hW => ⟨rfl, trivial⟩⟩ rfl rfl hl.1 rfl (lv_room (Nat.le_of_ble_eq_true rfl)) dX10_known_22 ⟨Nat.zero_le _, Nat.zero_le _⟩) (fun r hr9 => ?_)
      subst hr9
      refine lv_if_ne (tgt := 30) hx hb dX10_known_25 (by decide) (fun c3 => ?_) (fun c3 => ?_)
      · replace c3 := bo_t c3
        refine lv_aload hx hb dX10_known_30 (lv_at hl 0 rfl) ?_
        refine lv_iload_n hx hb dX10_known_32 rfl (lv_at hl 3 rfl) ?_
        refine lv_iload_n hx hb dX10_known_33 rfl (lv_at hl 4 rfl) ?_
        refine vp_callSi (W.runV (As := [.int p1, .int p2]) (rest := []) ⟨hx, hb, hml, hown, hts⟩ (c_X5_dayKnown l dC dI rl ad cy F M Y p0.toNatClampNeg p1 p2 hrl hI hJ (ix_cn c1 (iv_7 hI).1) (ib_in c2 (by decide))) (cwV 2 hts gX10_known_X5_dayKnown rfl rfl rfl (by decide +kernel) ⟨Nat.le_of_ble_eq_true rfl, Nat.le_of_ble_eq_true rfl⟩) ⟨pc_blind, rg_recv hK hP ((hrl _).mpr (vd_5 (ix_cn c1 (iv_7 hI).1))) (ci := 5) rfl en_5, fun U hU hW => ⟨rfl, by rw [hU]; exact hP, va_K.moved hW.alike hK, nst_w hW hN⟩⟩ rfl rfl hl.1 rfl (lv_room (Nat.le_of_ble_eq_true rfl)) dX10_known_34 ⟨Nat.zero_le _, Nat.zero_le _⟩) (fun r hr9 => ?_)
        subst hr9
        rw [nI_bk (x := p0) c1.1]
        exact W.iret (v := s_X11_lastOf F M p0 p1 p2) hx hb hr (fun t ht hW => ⟨s_X11_lastOf F M p0 p1 p2, rfl, by unfold s_X11_known; rw [if_pos c1]; rw [if_pos c2]; rw [if_pos c3], ht⟩) (fun _ h => by cases h) dX10_known_37
      · replace c3 := bo_f c3
        refine lv_iconst (v := (-1)) hx hb dX10_known_28 (by decide) ?_
        exact W.iret (v := (-1)) hx hb hr (fun t ht hW => ⟨(-1), rfl, by unfold s_X11_known; rw [if_pos c1]; rw [if_pos c2]; rw [if_neg c3], ht⟩) (fun _ h => by cases h) dX10_known_29
  · rw [if_neg c1]
    refine W.eq (g2 := F0 m 5 ls (.null :: [])) rfl ?_
    refine lv_astoreN (lv' := [(4, .null), (0, .ref (ad (9, 0))), (1, .int p0), (2, .int p1), (3, .int p2)]) hx hb dX10_known_5 hl (by decide) rfl (fun ls hl => ?_)
    refine lv_aloadN hx hb dX10_known_7 (lv_at hl 0 rfl) ?_
    refine lv_ifnullN (tgt := 28) hx hb dX10_known_9 (by decide) ?_
    refine lv_iconst (v := (-1)) hx hb dX10_known_28 (by decide) ?_
    exact W.iret (v := (-1)) hx hb hr (fun t ht hW => ⟨(-1), rfl, by unfold s_X11_known; rw [if_neg c1], ht⟩) (fun _ h => by cases h) dX10_known_29
