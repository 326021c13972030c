theorem ec_46 (ad : Nat × Nat → Nat) (cy : Nat → ClassId) (F : Nat → Int32) (M Y : Nat → Nat → Int32) (a b c : Nat → Int32) : ∀ r, eC ad cy F M Y r = eC ad cy F (va_up (va_up (va_up M 46 a) 47 b) 48 c) Y r := by
  intro r
  simp [eC, va_up]
theorem hcj72 {F : Nat → Int32} {M : Nat → Nat → Int32} (hJ : jv F M) : ∀ x, x < 72 → in9 (M 42 x) := by
  intro x hx
  have h := jv_h hJ x hx
  have h1 := ib_le.mp h.1
  have h2 := ib_le.mp h.2
  rw [ib_0] at h1
  rw [show (9 : Int32).toInt = 9 from by decide] at h2
  exact ⟨h1, h2⟩
theorem cs_val {F : Nat → Int32} {M Y : Nat → Nat → Int32} {p0 : Int32} (hJ : jv F M) (hp : ∃ k, k < 32 ∧ p0 = nI (2 * k)) : L_cm F M (wgY F M Y) p0 n32 = (s_X11_mostSwaps F M p0).1 := by
  obtain ⟨k, hk, e⟩ := hp
  subst e
  exact cmg_eq (hcj72 hJ) hk
theorem ap_all : ∀ n, n < 63 → (nI n &&& (-63) = 0 → ∃ k, k < 32 ∧ n = 2 * k) ∧ (nI n - nI n / 2 * 2 = 0 ↔ nI n &&& (-63) = 0) := by
  have h : ∀ n, n < 63 → ((nI n &&& (-63) = 0 → n % 2 = 0) ∧ (nI n - nI n / 2 * 2 = 0 ↔ nI n &&& (-63) = 0)) := by decide +kernel
  intro n hn
  refine ⟨fun q => ⟨n / 2, by omega, ?_⟩, (h n hn).2⟩
  have := (h n hn).1 q
  omega
theorem ap_62 {p : Int32} (h : p &&& (-63) = 0) : ∃ n, n < 63 ∧ p = nI n := by
  have h1 : p.toBitVec &&& (-63 : Int32).toBitVec = 0#32 := by
    have := congrArg Int32.toBitVec h
    exact this
  have hb : ∀ i, i < 32 → ((-63 : Int32).toBitVec.getLsbD i = true ∨ (62#32).getLsbD i = true) := by decide +kernel
  have h2 : p.toBitVec = p.toBitVec &&& 62#32 := by
    apply BitVec.eq_of_getLsbD_eq
    intro i hi
    rw [BitVec.getLsbD_and]
    rcases hb i hi with q | q
    · have z := congrArg (fun x => BitVec.getLsbD x i) h1
      simp only [BitVec.getLsbD_and, q, Bool.and_true, BitVec.getLsbD_zero] at z
      rw [z, Bool.false_and]
    · rw [q, Bool.and_true]
  have h3 : p.toBitVec.toNat ≤ 62 := by
    have e : p.toBitVec.toNat = p.toBitVec.toNat &&& 62 := by
      have := congrArg BitVec.toNat h2
      rw [BitVec.toNat_and] at this
      exact this
    have := Nat.and_le_right (n := p.toBitVec.toNat) (m := 62)
    omega
  have h4 : p.toInt = (p.toBitVec.toNat : Int) := by
    show p.toBitVec.toInt = _
    rw [BitVec.toInt_eq_toNat_cond, if_pos (by omega)]
  refine ⟨p.toBitVec.toNat, by omega, ib_eq.mpr ?_⟩
  rw [nI_toInt (by omega), h4]
theorem ap_of {p : Int32} (h : p &&& (-63) = 0) : ∃ k, k < 32 ∧ p = nI (2 * k) := by
  obtain ⟨n, hn, e⟩ := ap_62 h
  subst e
  obtain ⟨k, hk, e⟩ := (ap_all n hn).1 h
  subst e
  exact ⟨k, hk, rfl⟩
theorem ap_1 {p : Int32} (h : p &&& (-63) = 0) : ¬ p < 0 ∧ ¬ 62 < p ∧ p - p / 2 * 2 = 0 := by
  obtain ⟨n, hn, e⟩ := ap_62 h
  subst e
  refine ⟨fun q => ?_, fun q => ?_, (ap_all n hn).2.mpr h⟩
  · have := ib_lt.mp q
    rw [nI_toInt (by omega), ib_0] at this
    omega
  · have := ib_lt.mp q
    rw [nI_toInt (by omega), show (62 : Int32).toInt = 62 from by decide] at this
    omega
theorem ap_bk {p : Int32} (h1 : ¬ p < 0) (h2 : ¬ 62 < p) (h3 : p - p / 2 * 2 = 0) : p &&& (-63) = 0 := by
  obtain ⟨j, hj, e⟩ := nI_of2 (x := p) (M := 62) (n := 62) (by decide) h1 (Int32.not_lt.mp h2)
  subst e
  exact (ap_all j (by omega)).2.mp h3
theorem nn_or2 {x y : Int32} (h : 0 ≤ x) (h' : 0 ≤ y) : 0 ≤ x ||| y := by
  have h1 := ib_le.mp h
  have h2 := ib_le.mp h'
  rw [ib_0] at h1 h2
  apply ib_le.mpr
  rw [ib_0]
  show 0 ≤ (x.toBitVec ||| y.toBitVec).toInt
  have m1 : x.toBitVec.msb = false := by
    rw [BitVec.msb_eq_toInt]
    exact decide_eq_false (by show ¬ x.toInt < 0; omega)
  have m2 : y.toBitVec.msb = false := by
    rw [BitVec.msb_eq_toInt]
    exact decide_eq_false (by show ¬ y.toInt < 0; omega)
  have m3 : (x.toBitVec ||| y.toBitVec).msb = false := by rw [BitVec.msb_or, m1, m2]; rfl
  rw [BitVec.msb_eq_toInt] at m3
  have := of_decide_eq_false m3
  omega
theorem lk_nn (F : Nat → Int32) (M : Nat → Nat → Int32) : 0 ≤ s_X11_lacking F M := by
  have b : ∀ i, i < 12 → (0 : Int32) ≤ 1 <<< ((nI i) &&& 31) := by decide +kernel
  have h : ∀ n, n ≤ 12 → 0 ≤ L_lacking F M n := by
    intro n
    induction n with
    | zero => intro _; exact Int32.le_refl 0
    | succ n ih =>
      intro hn
      rw [L_lacking]
      split
      · exact nn_or2 (ih (by omega)) (b n (by omega))
      · exact nn_or2 (ih (by omega)) (Int32.le_refl 0)
  exact h 12 (Nat.le_refl 12)
theorem gN_42 {F : Nat → Int32} {M M' : Nat → Nat → Int32} (hc : ∀ x, x < 12 → in9 (M 42 x)) (e : M' 42 = M 42) (p : Int32) : gN F M' p = gN F M p := by
  obtain ⟨⟨T, a⟩, b⟩ := ms_val (F := F) (M := M) hc p
  obtain ⟨⟨T', a'⟩, b'⟩ := ms_val (F := F) (M := M') (by rw [e]; exact hc) p
  rw [e] at a' b'
  have := b T'
  have := b' T
  omega

set_option maxHeartbeats 4000000 in
set_option maxRecDepth 100000 in
theorem c_X10_swaps (l : Launch) (dC : Nat → ClassId) (dI : Nat → Nat → Nat) (rl : List (Nat × Nat)) (ad : Nat × Nat → Nat) (cy : Nat → ClassId) (F : Nat → Int32) (M Y : Nat → Nat → Int32) (p0 : Int32) (hrl : ∀ r, r ∈ rl ↔ vd F r) (hI : iv F M) (hJ : jv F M) (A : Nat → Prop) (hD : va_D A (rx_W rl ad (eC ad cy F M Y))) : Met l yX10_swaps wsX10_swaps ({ frames := 4, cells := 0, slots := 0, locals := 94 } : Room) (va_Pc [.ref (ad (9, 0)), .int p0] (pC dC dI rl ad cy (eC ad cy F M Y))) (va_Qi (fun r (_ : Nat → Nat → Int32) => r = (s_X11_swaps F M p0).1) (qC A dC dI rl ad cy (s_X11_swaps F M p0).2.1 (s_X11_swaps F M p0).2.2) A) 0 0 A := by
  refine Met.ofW (cc := cX10_swaps) (maxL := 2) (ret := (some .int)) (by decide) rfl ?_
  intro p e s m args below meth c s₁ B hml hv
  obtain ⟨rfl, hP, hK, hN⟩ := hv
  have hx := B.exec
  have hb := B.bytes
  have hr := B.returns
  have hts := atoms_spec (ws := wsX10_swaps) B.pre
  have hown : s.vm.findClass RX10 = some m.cls := findClass_of_methodNamed B.named
  have hlocks := B.notSynchronized
  have hin10 : ∀ w ∈ wsX100, w ∈ wsX10_swaps := by decide +kernel
  have hS : va_S A s.heap s.heap [] := va_S.rf
  have hl := lv_entry ([.ref (ad (9, 0)), .int p0]) (n := 2) (Nat.le_of_ble_eq_true rfl)
  rw [lg_entry_eq]
  generalize (lg_sl ([.ref (ad (9, 0)), .int p0]) ++ List.replicate (2 - (lg_sl ([.ref (ad (9, 0)), .int p0])).length) Slot.unset).toArray = ls at hl ⊢
  have hl : lv_has ls 2 [(0, .ref (ad (9, 0))), (1, .int p0)] := hl
  refine lv_iload_n hx hb dX10_swaps_0 rfl (lv_at hl 1 rfl) ?_
  refine lv_bipush (v := (-63)) hx hb dX10_swaps_1 (by decide) ?_
  refine lv_iand hx hb dX10_swaps_3 ?_
  refine lv_if_eq (tgt := 9) hx hb dX10_swaps_4 (by decide) (fun c1 => ?_) (fun c1 => ?_)
  · refine lv_aload_n hx hb dX10_swaps_9 rfl (lv_at hl 0 rfl) ?_
    refine rg_get (D := (dC, dI)) (r := (9, 0)) (ci := 9) (v := .ref (ad (2, 0))) (C := RX10) (T := TX10) (N := 19) hx hb hts hin10 hown hK hP ((hrl _).mpr (vd_9 (by decide))) en_9 rfl 14 (by decide) (hts (.fieldLink RX10 48 "SocietyBook" "holdings" "LSocietyBook$Holdings;") (by decide +kernel)) (fun _ h9 => h9) rfl dX10_swaps_10 ?_
    refine va_callv (va_runV (As := []) (rest := []) ⟨hx, hb, hml, hown, hts⟩ (c_X2_weigh l dC dI rl ad cy F M Y   hrl hI hJ A hD ) (cwV 0 hts gX10_swaps_X2_weigh rfl rfl rfl (by decide +kernel) ⟨Nat.le_of_ble_eq_true rfl, Nat.le_of_ble_eq_true rfl⟩) ⟨pc_blind, rg_recv hK hP ((hrl _).mpr (vd_2 (by decide))) (ci := 2) rfl en_2, fun U hU hW => ⟨rfl, by rw [hU]; exact hP, va_K.moved hW.alike hK, nst_w hW hN⟩⟩ rfl rfl hl.1 rfl (lv_room (Nat.le_of_ble_eq_true rfl)) dX10_swaps_13 ⟨Nat.zero_le _, Nat.zero_le _⟩) hS (fun q _ h => h) (fun q h => h) (fun u t H1 locs ht hvm hw hB hz1 hk1 hS => ?_)
    subst hw
    obtain ⟨⟨hP, -, -⟩, hD⟩ := hB
    rw [ht] at hP
    clear hz1 hk1 ht hvm; generalize H1 = H at hP hS ⊢
    replace hP : va_P (dC, dI) vwCl (rx_W rl ad (eC ad cy F M (wgY F M Y))) H := hP
    replace hD : va_D A (rx_W rl ad (eC ad cy F M (wgY F M Y))) := hD
    refine lv_aload_n hx hb dX10_swaps_16 rfl (lv_at hl 0 rfl) ?_
    refine rg_get (D := (dC, dI)) (r := (9, 0)) (ci := 9) (v := .ref (ad (2, 0))) (C := RX10) (T := TX10) (N := 19) hx hb hts hin10 hown hK hP ((hrl _).mpr (vd_9 (by decide))) en_9 rfl 14 (by decide) (hts (.fieldLink RX10 48 "SocietyBook" "holdings" "LSocietyBook$Holdings;") (by decide +kernel)) (fun _ h9 => h9) rfl dX10_swaps_17 ?_
    refine lv_iload_n hx hb dX10_swaps_20 rfl (lv_at hl 1 rfl) ?_
    refine vp_callSi (W.runV (As := [.int p0]) (rest := []) ⟨hx, hb, hml, hown, hts⟩ (c_X2_mostSwaps l dC dI rl ad cy F M (wgY F M Y)  p0 hrl hI hJ (ap_of c1)) (cwV 1 hts gX10_swaps_X2_mostSwaps rfl rfl rfl (by decide +kernel) ⟨Nat.le_of_ble_eq_true rfl, Nat.le_of_ble_eq_true rfl⟩) ⟨pc_blind, rg_recv hK hP ((hrl _).mpr (vd_2 (by decide))) (ci := 2) rfl en_2, fun U hU hW => ⟨rfl, by rw [hU]; exact hP, va_K.moved hW.alike hK, nst_w hW hN⟩⟩ rfl rfl hl.1 rfl (lv_room (Nat.le_of_ble_eq_true rfl)) dX10_swaps_21 ⟨Nat.zero_le _, Nat.zero_le _⟩) (fun r hr9 => ?_)
    subst hr9
    refine W.eq (g2 := F0 m 24 ls (.int ((s_X11_mostSwaps F M p0).1) :: [])) (by rw [cs_val hJ (ap_of c1)]) ?_
    replace hP : va_P (dC, dI) vwCl (rx_W rl ad (eC ad cy F (va_up (va_up (va_up M 46 (gZ F M p0 46)) 47 (gZ F M p0 47)) 48 (gZ F M p0 48)) (wgY F M Y))) H := ec_mp (ec_46 ad cy F M (wgY F M Y) _ _ _) hP
    replace hD : va_D A (rx_W rl ad (eC ad cy F (va_up (va_up (va_up M 46 (gZ F M p0 46)) 47 (gZ F M p0 47)) 48 (gZ F M p0 48)) (wgY F M Y))) := rx_D hD
    have E9 : s_X11_swaps F M p0 = ((s_X11_mostSwaps F M p0).1, (F, va_up (va_up (va_up M 46 (gZ F M p0 46)) 47 (gZ F M p0 47)) 48 (gZ F M p0 48))) := by unfold s_X11_swaps; rw [if_neg (ap_1 c1).1, if_neg (ap_1 c1).2.1, if_pos (ap_1 c1).2.2]
    exact W.iret (v := (s_X11_mostSwaps F M p0).1) hx hb hr (fun t ht hW => ⟨⟨(s_X11_mostSwaps F M p0).1, wgY F M Y, rfl, by rw [E9], by rw [E9]; exact ⟨⟨by rw [ht]; exact hP, va_K.moved hW.alike hK, nst_w hW hN⟩, hD⟩⟩, hS.F ht⟩) hS.2.2 dX10_swaps_24
  · refine lv_iconst (v := (-1)) hx hb dX10_swaps_7 (by decide) ?_
    have E9 : s_X11_swaps F M p0 = ((-1), (F, M)) := by unfold s_X11_swaps; by_cases z0 : p0 < 0; (· rw [if_pos z0]); by_cases z1 : 62 < p0; (· rw [if_neg z0, if_pos z1]); rw [if_neg z0, if_neg z1, if_neg (fun z2 => c1 (ap_bk z0 z1 z2))]
    exact W.iret (v := (-1)) hx hb hr (fun t ht hW => ⟨⟨(-1), Y, rfl, by rw [E9], by rw [E9]; exact ⟨⟨by rw [ht]; exact hP, va_K.moved hW.alike hK, nst_w hW hN⟩, hD⟩⟩, hS.F ht⟩) hS.2.2 dX10_swaps_8

noncomputable def L_cw (F : Nat → Int32) (M : Nat → Nat → Int32) (Y : Nat → Nat → Int32)  : Nat → Int32 × Int32
  | 0 => ((-9), 0)
  | i1 + 1 =>
    if ((L_cw F M Y i1).1) = (-9) then (if (L_cm F M (wgY F M Y) (nI (2 * i1)) n32) = (s_X11_bitsOf (s_X11_lacking F M)) then (s_X11_bitsOf (nI (2 * i1)), nI (2 * i1)) else
      ((L_cw F M Y i1).1, (L_cw F M Y i1).2)) else
    if ((L_cw F M Y i1).1) ≤ (s_X11_bitsOf (nI (2 * i1))) then ((L_cw F M Y i1).1, (L_cw F M Y i1).2) else
    if (L_cm F M (wgY F M Y) (nI (2 * i1)) n32) = (s_X11_bitsOf (s_X11_lacking F M)) then (s_X11_bitsOf (nI (2 * i1)), nI (2 * i1)) else
    ((L_cw F M Y i1).1, (L_cw F M Y i1).2)
theorem cw_eq {F : Nat → Int32} {M Y : Nat → Nat → Int32} (hI : iv F M) (hJ : jv F M) : ∀ n, n ≤ 32 → ((L_whole F M n).1 = -9 ∧ L_cw F M Y n = (-9, 0)) ∨ ∃ j, j < n ∧ (L_whole F M n).1 = nI (2 * j) ∧ L_cw F M Y n = (s_X11_bitsOf (nI (2 * j)), nI (2 * j)) := by
  have h9 : ∀ j, j < 32 → ¬ nI (2 * j) = -9 ∧ ¬ s_X11_bitsOf (nI (2 * j)) = -9 := by decide +kernel
  intro n
  induction n with
  | zero => intro _; exact Or.inl ⟨rfl, rfl⟩
  | succ n ih =>
    intro hn
    have em : ∀ x y z : Nat → Int32, (s_X11_mostSwaps F (va_up (va_up (va_up M 46 x) 47 y) 48 z) (nI (2 * n))).1 = L_cm F M (wgY F M Y) (nI (2 * n)) n32 := by
      intro x y z
      rw [cmg_eq (hcj72 hJ) (show n < 32 by omega)]
      show nI (gN F (va_up (va_up (va_up M 46 x) 47 y) 48 z) (nI (2 * n))) = _
      rw [gN_42 (M := M) (fun x hx => hcj72 hJ x (by omega)) (by simp [va_up])]
    rw [L_whole, L_cw]
    simp only [em]
    rcases ih (by omega) with ⟨e1, e2⟩ | ⟨j, hj, e1, e2⟩
    · rw [e2]
      simp only [e1, if_true]
      by_cases c : L_cm F M (wgY F M Y) (nI (2 * n)) n32 = s_X11_bitsOf (s_X11_lacking F M)
      · rw [if_pos c, if_pos c]; exact Or.inr ⟨n, Nat.lt_succ_self n, rfl, rfl⟩
      · rw [if_neg c, if_neg c]; exact Or.inl ⟨rfl, rfl⟩
    · rw [e2]
      simp only [e1]
      rw [if_neg (h9 j (by omega)).1, if_neg (h9 j (by omega)).2]
      by_cases c1 : s_X11_bitsOf (nI (2 * j)) ≤ s_X11_bitsOf (nI (2 * n))
      · rw [if_pos c1, if_pos c1]; exact Or.inr ⟨j, by omega, rfl, rfl⟩
      · rw [if_neg c1, if_neg c1]
        by_cases c : L_cm F M (wgY F M Y) (nI (2 * n)) n32 = s_X11_bitsOf (s_X11_lacking F M)
        · rw [if_pos c, if_pos c]; exact Or.inr ⟨n, Nat.lt_succ_self n, rfl, rfl⟩
        · rw [if_neg c, if_neg c]; exact Or.inr ⟨j, by omega, rfl, rfl⟩
theorem cw_y {F : Nat → Int32} {M Y : Nat → Nat → Int32} (h : ((L_whole F M n32).1 = -9 ∧ L_cw F M Y n32 = (-9, 0)) ∨ ∃ j, j < n32 ∧ (L_whole F M n32).1 = nI (2 * j) ∧ L_cw F M Y n32 = (s_X11_bitsOf (nI (2 * j)), nI (2 * j))) (c : (L_cw F M Y n32).1 = -9) : s_X11_whole F M = ((L_cw F M Y n32).1, (F, va_up (va_up (va_up M 46 ((L_whole F M n32).2.1)) 47 ((L_whole F M n32).2.2.1)) 48 ((L_whole F M n32).2.2.2))) := by
  have h9 : ∀ j, j < 32 → ¬ nI (2 * j) = -9 ∧ ¬ s_X11_bitsOf (nI (2 * j)) = -9 := by decide +kernel
  unfold s_X11_whole
  rcases h with ⟨e1, e2⟩ | ⟨j, hj, e1, e2⟩
  · rw [if_pos e1, e2]
  · rw [n32_eq] at hj
    rw [e2] at c
    exact absurd c (h9 j hj).2
theorem cw_n {F : Nat → Int32} {M Y : Nat → Nat → Int32} (h : ((L_whole F M n32).1 = -9 ∧ L_cw F M Y n32 = (-9, 0)) ∨ ∃ j, j < n32 ∧ (L_whole F M n32).1 = nI (2 * j) ∧ L_cw F M Y n32 = (s_X11_bitsOf (nI (2 * j)), nI (2 * j))) (c : ¬ (L_cw F M Y n32).1 = -9) : s_X11_whole F M = ((L_cw F M Y n32).1, (va_up F 2 (L_cw F M Y n32).2, va_up (va_up (va_up M 46 ((L_whole F M n32).2.1)) 47 ((L_whole F M n32).2.2.1)) 48 ((L_whole F M n32).2.2.2))) := by
  have h9 : ∀ j, j < 32 → ¬ nI (2 * j) = -9 ∧ ¬ s_X11_bitsOf (nI (2 * j)) = -9 := by decide +kernel
  unfold s_X11_whole
  rcases h with ⟨e1, e2⟩ | ⟨j, hj, e1, e2⟩
  · rw [e2] at c; exact absurd rfl c
  · rw [n32_eq] at hj
    rw [if_neg (by rw [e1]; exact (h9 j hj).1), e2, e1]
set_option maxHeartbeats 4000000 in
set_option maxRecDepth 100000 in
theorem c_X10_whole (l : Launch) (dC : Nat → ClassId) (dI : Nat → Nat → Nat) (rl : List (Nat × Nat)) (ad : Nat × Nat → Nat) (cy : Nat → ClassId) (F : Nat → Int32) (M Y : Nat → Nat → Int32)  (hrl : ∀ r, r ∈ rl ↔ vd F r) (hI : iv F M) (hJ : jv F M) (A : Nat → Prop) (hD : va_D A (rx_W rl ad (eC ad cy F M Y))) : Met l yX10_whole wsX10_whole ({ frames := 4, cells := 0, slots := 0, locals := 94 } : Room) (va_Pc [.ref (ad (9, 0))] (pC dC dI rl ad cy (eC ad cy F M Y))) (va_Qi (fun r (_ : Nat → Nat → Int32) => r = (s_X11_whole F M ).1) (qC A dC dI rl ad cy (s_X11_whole F M ).2.1 (s_X11_whole F M ).2.2) A) 0 0 A := by
  refine Met.ofW (cc := cX10_whole) (maxL := 6) (ret := (some .int)) (by decide) rfl ?_
  intro p e s m args below meth c s₁ B hml hv
  obtain ⟨rfl, hP, hK, hN⟩ := hv
  have hx := B.exec
  have hb := B.bytes
  have hr := B.returns
  have hts := atoms_spec (ws := wsX10_whole) B.pre
  have hown : s.vm.findClass RX10 = some m.cls := findClass_of_methodNamed B.named
  have hlocks := B.notSynchronized
  have hin10 : ∀ w ∈ wsX100, w ∈ wsX10_whole := by decide +kernel
  have hS : va_S A s.heap s.heap [] := va_S.rf
  have hl := lv_entry ([.ref (ad (9, 0))]) (n := 6) (Nat.le_of_ble_eq_true rfl)
  rw [lg_entry_eq]
  generalize (lg_sl ([.ref (ad (9, 0))]) ++ List.replicate (6 - (lg_sl ([.ref (ad (9, 0))])).length) Slot.unset).toArray = ls at hl ⊢
  have hl : lv_has ls 6 [(0, .ref (ad (9, 0)))] := hl
  have hn32 := n32_eq
  refine lv_aload_n hx hb dX10_whole_0 rfl (lv_at hl 0 rfl) ?_
  refine rg_get (D := (dC, dI)) (r := (9, 0)) (ci := 9) (v := .ref (ad (2, 0))) (C := RX10) (T := TX10) (N := 19) hx hb hts hin10 hown hK hP ((hrl _).mpr (vd_9 (by decide))) en_9 rfl 14 (by decide) (hts (.fieldLink RX10 48 "SocietyBook" "holdings" "LSocietyBook$Holdings;") (by decide +kernel)) (fun _ h9 => h9) rfl dX10_whole_1 ?_
  refine vp_callSi (W.runV (As := []) (rest := []) ⟨hx, hb, hml, hown, hts⟩ (c_X2_lacking l dC dI rl ad cy F M Y   hrl hI hJ ) (cwV 0 hts gX10_whole_X2_lacking rfl rfl rfl (by decide +kernel) ⟨Nat.le_of_ble_eq_true rfl, Nat.le_of_ble_eq_true rfl⟩) ⟨pc_blind, rg_recv hK hP ((hrl _).mpr (vd_2 (by decide))) (ci := 2) rfl en_2, fun U hU hW => ⟨rfl, by rw [hU]; exact hP, va_K.moved hW.alike hK, nst_w hW hN⟩⟩ rfl rfl hl.1 rfl (lv_room (Nat.le_of_ble_eq_true rfl)) dX10_whole_4 ⟨Nat.zero_le _, Nat.zero_le _⟩) (fun r hr9 => ?_)
  subst hr9
  refine vp_callSi (W.runS (As := [.int (s_X11_lacking F M)]) (rest := []) ⟨hx, hb, hml, hown, hts⟩ (c_J6_bitCount_0f7a4 l (s_X11_lacking F M)) (va_cwS 1 hts gX10_whole_J6_bitCount_0f7a4 rfl rfl rfl (by decide +kernel) ⟨Nat.le_of_ble_eq_true rfl, Nat.le_of_ble_eq_true rfl⟩) ⟨fun _ _ _ _ q => q, fun U hU hW => ⟨rfl, trivial⟩⟩ rfl rfl hl.1 rfl (lv_room (Nat.le_of_ble_eq_true rfl)) dX10_whole_7 ⟨Nat.zero_le _, Nat.zero_le _⟩) (fun r hr9 => ?_)
  subst hr9
  rw [bc_eq (x := s_X11_lacking F M) (lk_nn F M)]
  refine lv_istore_n (lv' := [(1, .int (s_X11_bitsOf (s_X11_lacking F M))), (0, .ref (ad (9, 0)))]) hx hb dX10_whole_10 rfl hl (by decide) rfl (fun ls hl => ?_)
  refine lv_aload_n hx hb dX10_whole_11 rfl (lv_at hl 1 rfl) ?_
  refine rg_get (D := (dC, dI)) (r := (9, 0)) (ci := 9) (v := .ref (ad (2, 0))) (C := RX10) (T := TX10) (N := 19) hx hb hts hin10 hown hK hP ((hrl _).mpr (vd_9 (by decide))) en_9 rfl 14 (by decide) (hts (.fieldLink RX10 48 "SocietyBook" "holdings" "LSocietyBook$Holdings;") (by decide +kernel)) (fun _ h9 => h9) rfl dX10_whole_12 ?_
  refine va_callv (va_runV (As := []) (rest := []) ⟨hx, hb, hml, hown, hts⟩ (c_X2_weigh l dC dI rl ad cy F M Y   hrl hI hJ A hD ) (cwV 0 hts gX10_whole_X2_weigh rfl rfl rfl (by decide +kernel) ⟨Nat.le_of_ble_eq_true rfl, Nat.le_of_ble_eq_true rfl⟩) ⟨pc_blind, rg_recv hK hP ((hrl _).mpr (vd_2 (by decide))) (ci := 2) rfl en_2, fun U hU hW => ⟨rfl, by rw [hU]; exact hP, va_K.moved hW.alike hK, nst_w hW hN⟩⟩ rfl rfl hl.1 rfl (lv_room (Nat.le_of_ble_eq_true rfl)) dX10_whole_15 ⟨Nat.zero_le _, Nat.zero_le _⟩) hS (fun q _ h => h) (fun q h => h) (fun u t H1 locs ht hvm hw hB hz1 hk1 hS => ?_)
  subst hw
  obtain ⟨⟨hP, -, -⟩, hD⟩ := hB
  rw [ht] at hP
  clear hz1 hk1 ht hvm; generalize H1 = H at hP hS ⊢
  replace hP : va_P (dC, dI) vwCl (rx_W rl ad (eC ad cy F M (wgY F M Y))) H := hP
  replace hD : va_D A (rx_W rl ad (eC ad cy F M (wgY F M Y))) := hD
  refine lv_bipush (v := (-9)) hx hb dX10_whole_18 (by decide) ?_
  refine lv_istore_n (lv' := [(2, .int (-9)), (1, .int (s_X11_bitsOf (s_X11_lacking F M))), (0, .ref (ad (9, 0)))]) hx hb dX10_whole_20 rfl hl (by decide) rfl (fun ls hl => ?_)
  refine lv_iconst (v := 0) hx hb dX10_whole_21 (by decide) ?_
  refine lv_istore_n (lv' := [(3, .int 0), (2, .int (-9)), (1, .int (s_X11_bitsOf (s_X11_lacking F M))), (0, .ref (ad (9, 0)))]) hx hb dX10_whole_22 rfl hl (by decide) rfl (fun ls hl => ?_)
  refine lv_iconst (v := 0) hx hb dX10_whole_23 (by decide) ?_
  refine lv_istore (lv' := [(4, .int 0), (3, .int 0), (2, .int (-9)), (1, .int (s_X11_bitsOf (s_X11_lacking F M))), (0, .ref (ad (9, 0)))]) hx hb dX10_whole_24 hl (by decide) rfl (fun ls hl => ?_)
  refine lp_for (N := n32) (lv := fun i1 => [(4, .int (nI (2 * i1))), (3, .int ((L_cw F M Y i1).2)), (2, .int ((L_cw F M Y i1).1)), (1, .int (s_X11_bitsOf (s_X11_lacking F M))), (0, .ref (ad (9, 0)))]) (lv_sub hl [0, 1, 2, 3, 4] rfl) (fun i1 hi1 ls hl kk1 => ?_) (fun ls hl => ?_)
  · replace hl : lv_has ls 6 [(4, .int (nI (2 * i1))), (3, .int ((L_cw F M Y i1).2)), (2, .int ((L_cw F M Y i1).1)), (1, .int (s_X11_bitsOf (s_X11_lacking F M))), (0, .ref (ad (9, 0)))] := hl
    refine lv_iload hx hb dX10_whole_26 (lv_at hl 0 rfl) ?_
    refine lv_bipush (v := 62) hx hb dX10_whole_28 (by decide) ?_
    refine lv_icmp_gt (tgt := 77) hx hb dX10_whole_30 (by decide) (fun c => absurd c (lb_n62 hi1)) (fun _ => ?_)
    refine lv_iload hx hb dX10_whole_33 (lv_at hl 0 rfl) ?_
    refine vp_callSi (W.runS (As := [.int (nI (2 * i1))]) (rest := []) ⟨hx, hb, hml, hown, hts⟩ (c_J6_bitCount_0f7a4 l (nI (2 * i1))) (va_cwS 1 hts gX10_whole_J6_bitCount_0f7a4 rfl rfl rfl (by decide +kernel) ⟨Nat.le_of_ble_eq_true rfl, Nat.le_of_ble_eq_true rfl⟩) ⟨fun _ _ _ _ q => q, fun U hU hW => ⟨rfl, trivial⟩⟩ rfl rfl hl.1 rfl (lv_room (Nat.le_of_ble_eq_true rfl)) dX10_whole_35 ⟨Nat.zero_le _, Nat.zero_le _⟩) (fun r hr9 => ?_)
    subst hr9
    rw [bc_eq (x := nI (2 * i1)) (nI_pos' (show 2 * i1 < 2 ^ 31 by omega))]
    refine lv_istore (lv' := [(5, .int (s_X11_bitsOf (nI (2 * i1)))), (4, .int (nI (2 * i1))), (3, .int ((L_cw F M Y i1).2)), (2, .int ((L_cw F M Y i1).1)), (1, .int (s_X11_bitsOf (s_X11_lacking F M))), (0, .ref (ad (9, 0)))]) hx hb dX10_whole_38 hl (by decide) rfl (fun ls hl => ?_)
    refine lv_iload_n hx hb dX10_whole_40 rfl (lv_at hl 3 rfl) ?_
    refine lv_bipush (v := (-9)) hx hb dX10_whole_41 (by decide) ?_
    refine lv_icmp_eq (tgt := 52) hx hb dX10_whole_43 (by decide) (fun c1 => ?_) (fun c1 => ?_)
    · refine lv_aload_n hx hb dX10_whole_52 rfl (lv_at hl 5 rfl) ?_
      refine rg_get (D := (dC, dI)) (r := (9, 0)) (ci := 9) (v := .ref (ad (2, 0))) (C := RX10) (T := TX10) (N := 19) hx hb hts hin10 hown hK hP ((hrl _).mpr (vd_9 (by decide))) en_9 rfl 14 (by decide) (hts (.fieldLink RX10 48 "SocietyBook" "holdings" "LSocietyBook$Holdings;") (by decide +kernel)) (fun _ h9 => h9) rfl dX10_whole_53 ?_
      refine lv_iload hx hb dX10_whole_56 (lv_at hl 1 rfl) ?_
      refine vp_callSi (W.runV (As := [.int (nI (2 * i1))]) (rest := []) ⟨hx, hb, hml, hown, hts⟩ (c_X2_mostSwaps l dC dI rl ad cy F M (wgY F M Y)  (nI (2 * i1)) hrl hI hJ ⟨i1, by omega, rfl⟩) (cwV 1 hts gX10_whole_X2_mostSwaps rfl rfl rfl (by decide +kernel) ⟨Nat.le_of_ble_eq_true rfl, Nat.le_of_ble_eq_true rfl⟩) ⟨pc_blind, rg_recv hK hP ((hrl _).mpr (vd_2 (by decide))) (ci := 2) rfl en_2, fun U hU hW => ⟨rfl, by rw [hU]; exact hP, va_K.moved hW.alike hK, nst_w hW hN⟩⟩ rfl rfl hl.1 rfl (lv_room (Nat.le_of_ble_eq_true rfl)) dX10_whole_58 ⟨Nat.zero_le _, Nat.zero_le _⟩) (fun r hr9 => ?_)
      subst hr9
      refine lv_iload_n hx hb dX10_whole_61 rfl (lv_at hl 4 rfl) ?_
      refine lv_icmp_ne (tgt := 71) hx hb dX10_whole_62 (by decide) (fun c2 => ?_) (fun c2 => ?_)
      · refine lv_iinc (v := nI (2 * (i1 + 1))) (lv' := [(4, .int (nI (2 * (i1 + 1)))), (5, .int (s_X11_bitsOf (nI (2 * i1)))), (3, .int ((L_cw F M Y i1).2)), (2, .int ((L_cw F M Y i1).1)), (1, .int (s_X11_bitsOf (s_X11_lacking F M))), (0, .ref (ad (9, 0)))]) hx hb dX10_whole_71 hl (k := 1) rfl (nI_add (2 * i1) 2) (by decide) rfl (fun ls hl => ?_)
        refine lv_goto (tgt := 26) hx hb dX10_whole_74 (by decide) ?_
        have e9 : L_cw F M Y (i1 + 1) = ((L_cw F M Y i1).1, (L_cw F M Y i1).2) := by rw [L_cw]; rw [if_pos c1, if_neg c2]
        refine kk1 ls (show lv_has ls 6 [(4, .int (nI (2 * (i1 + 1)))), (3, .int ((L_cw F M Y (i1 + 1)).2)), (2, .int ((L_cw F M Y (i1 + 1)).1)), (1, .int (s_X11_bitsOf (s_X11_lacking F M))), (0, .ref (ad (9, 0)))] from ?_)
        rw [e9]; exact lv_sub hl [0, 2, 3, 4, 5] rfl
      · refine lv_iload hx hb dX10_whole_65 (lv_at hl 0 rfl) ?_
        refine lv_istore_n (lv' := [(2, .int (s_X11_bitsOf (nI (2 * i1)))), (5, .int (s_X11_bitsOf (nI (2 * i1)))), (4, .int (nI (2 * i1))), (3, .int ((L_cw F M Y i1).2)), (1, .int (s_X11_bitsOf (s_X11_lacking F M))), (0, .ref (ad (9, 0)))]) hx hb dX10_whole_67 rfl hl (by decide) rfl (fun ls hl => ?_)
        refine lv_iload hx hb dX10_whole_68 (lv_at hl 2 rfl) ?_
        refine lv_istore_n (lv' := [(3, .int (nI (2 * i1))), (2, .int (s_X11_bitsOf (nI (2 * i1)))), (5, .int (s_X11_bitsOf (nI (2 * i1)))), (4, .int (nI (2 * i1))), (1, .int (s_X11_bitsOf (s_X11_lacking F M))), (0, .ref (ad (9, 0)))]) hx hb dX10_whole_70 rfl hl (by decide) rfl (fun ls hl => ?_)
        refine lv_iinc (v := nI (2 * (i1 + 1))) (lv' := [(4, .int (nI (2 * (i1 + 1)))), (3, .int (nI (2 * i1))), (2, .int (s_X11_bitsOf (nI (2 * i1)))), (5, .int (s_X11_bitsOf (nI (2 * i1)))), (1, .int (s_X11_bitsOf (s_X11_lacking F M))), (0, .ref (ad (9, 0)))]) hx hb dX10_whole_71 hl (k := 3) rfl (nI_add (2 * i1) 2) (by decide) rfl (fun ls hl => ?_)
        refine lv_goto (tgt := 26) hx hb dX10_whole_74 (by decide) ?_
        have e9 : L_cw F M Y (i1 + 1) = (s_X11_bitsOf (nI (2 * i1)), nI (2 * i1)) := by rw [L_cw]; rw [if_pos c1, if_pos c2]
        refine kk1 ls (show lv_has ls 6 [(4, .int (nI (2 * (i1 + 1)))), (3, .int ((L_cw F M Y (i1 + 1)).2)), (2, .int ((L_cw F M Y (i1 + 1)).1)), (1, .int (s_X11_bitsOf (s_X11_lacking F M))), (0, .ref (ad (9, 0)))] from ?_)
        rw [e9]; exact lv_sub hl [0, 1, 2, 4, 5] rfl
    · refine lv_iload hx hb dX10_whole_46 (lv_at hl 0 rfl) ?_
      refine lv_iload_n hx hb dX10_whole_48 rfl (lv_at hl 3 rfl) ?_
      refine lv_icmp_ge (tgt := 71) hx hb dX10_whole_49 (by decide) (fun c3 => ?_) (fun c3 => ?_)
      · refine lv_iinc (v := nI (2 * (i1 + 1))) (lv' := [(4, .int (nI (2 * (i1 + 1)))), (5, .int (s_X11_bitsOf (nI (2 * i1)))), (3, .int ((L_cw F M Y i1).2)), (2, .int ((L_cw F M Y i1).1)), (1, .int (s_X11_bitsOf (s_X11_lacking F M))), (0, .ref (ad (9, 0)))]) hx hb dX10_whole_71 hl (k := 1) rfl (nI_add (2 * i1) 2) (by decide) rfl (fun ls hl => ?_)
        refine lv_goto (tgt := 26) hx hb dX10_whole_74 (by decide) ?_
        have e9 : L_cw F M Y (i1 + 1) = ((L_cw F M Y i1).1, (L_cw F M Y i1).2) := by rw [L_cw]; rw [if_neg c1, if_pos c3]
        refine kk1 ls (show lv_has ls 6 [(4, .int (nI (2 * (i1 + 1)))), (3, .int ((L_cw F M Y (i1 + 1)).2)), (2, .int ((L_cw F M Y (i1 + 1)).1)), (1, .int (s_X11_bitsOf (s_X11_lacking F M))), (0, .ref (ad (9, 0)))] from ?_)
        rw [e9]; exact lv_sub hl [0, 2, 3, 4, 5] rfl
      · refine lv_aload_n hx hb dX10_whole_52 rfl (lv_at hl 5 rfl) ?_
        refine rg_get (D := (dC, dI)) (r := (9, 0)) (ci := 9) (v := .ref (ad (2, 0))) (C := RX10) (T := TX10) (N := 19) hx hb hts hin10 hown hK hP ((hrl _).mpr (vd_9 (by decide))) en_9 rfl 14 (by decide) (hts (.fieldLink RX10 48 "SocietyBook" "holdings" "LSocietyBook$Holdings;") (by decide +kernel)) (fun _ h9 => h9) rfl dX10_whole_53 ?_
        refine lv_iload hx hb dX10_whole_56 (lv_at hl 1 rfl) ?_
        refine vp_callSi (W.runV (As := [.int (nI (2 * i1))]) (rest := []) ⟨hx, hb, hml, hown, hts⟩ (c_X2_mostSwaps l dC dI rl ad cy F M (wgY F M Y)  (nI (2 * i1)) hrl hI hJ ⟨i1, by omega, rfl⟩) (cwV 1 hts gX10_whole_X2_mostSwaps rfl rfl rfl (by decide +kernel) ⟨Nat.le_of_ble_eq_true rfl, Nat.le_of_ble_eq_true rfl⟩) ⟨pc_blind, rg_recv hK hP ((hrl _).mpr (vd_2 (by decide))) (ci := 2) rfl en_2, fun U hU hW => ⟨rfl, by rw [hU]; exact hP, va_K.moved hW.alike hK, nst_w hW hN⟩⟩ rfl rfl hl.1 rfl (lv_room (Nat.le_of_ble_eq_true rfl)) dX10_whole_58 ⟨Nat.zero_le _, Nat.zero_le _⟩) (fun r hr9 => ?_)
        subst hr9
        refine lv_iload_n hx hb dX10_whole_61 rfl (lv_at hl 4 rfl) ?_
        refine lv_icmp_ne (tgt := 71) hx hb dX10_whole_62 (by decide) (fun c4 => ?_) (fun c4 => ?_)
        · refine lv_iinc (v := nI (2 * (i1 + 1))) (lv' := [(4, .int (nI (2 * (i1 + 1)))), (5, .int (s_X11_bitsOf (nI (2 * i1)))), (3, .int ((L_cw F M Y i1).2)), (2, .int ((L_cw F M Y i1).1)), (1, .int (s_X11_bitsOf (s_X11_lacking F M))), (0, .ref (ad (9, 0)))]) hx hb dX10_whole_71 hl (k := 1) rfl (nI_add (2 * i1) 2) (by decide) rfl (fun ls hl => ?_)
          refine lv_goto (tgt := 26) hx hb dX10_whole_74 (by decide) ?_
          have e9 : L_cw F M Y (i1 + 1) = ((L_cw F M Y i1).1, (L_cw F M Y i1).2) := by rw [L_cw]; rw [if_neg c1, if_neg c3, if_neg c4]
          refine kk1 ls (show lv_has ls 6 [(4, .int (nI (2 * (i1 + 1)))), (3, .int ((L_cw F M Y (i1 + 1)).2)), (2, .int ((L_cw F M Y (i1 + 1)).1)), (1, .int (s_X11_bitsOf (s_X11_lacking F M))), (0, .ref (ad (9, 0)))] from ?_)
          rw [e9]; exact lv_sub hl [0, 2, 3, 4, 5] rfl
        · refine lv_iload hx hb dX10_whole_65 (lv_at hl 0 rfl) ?_
          refine lv_istore_n (lv' := [(2, .int (s_X11_bitsOf (nI (2 * i1)))), (5, .int (s_X11_bitsOf (nI (2 * i1)))), (4, .int (nI (2 * i1))), (3, .int ((L_cw F M Y i1).2)), (1, .int (s_X11_bitsOf (s_X11_lacking F M))), (0, .ref (ad (9, 0)))]) hx hb dX10_whole_67 rfl hl (by decide) rfl (fun ls hl => ?_)
          refine lv_iload hx hb dX10_whole_68 (lv_at hl 2 rfl) ?_
          refine lv_istore_n (lv' := [(3, .int (nI (2 * i1))), (2, .int (s_X11_bitsOf (nI (2 * i1)))), (5, .int (s_X11_bitsOf (nI (2 * i1)))), (4, .int (nI (2 * i1))), (1, .int (s_X11_bitsOf (s_X11_lacking F M))), (0, .ref (ad (9, 0)))]) hx hb dX10_whole_70 rfl hl (by decide) rfl (fun ls hl => ?_)
          refine lv_iinc (v := nI (2 * (i1 + 1))) (lv' := [(4, .int (nI (2 * (i1 + 1)))), (3, .int (nI (2 * i1))), (2, .int (s_X11_bitsOf (nI (2 * i1)))), (5, .int (s_X11_bitsOf (nI (2 * i1)))), (1, .int (s_X11_bitsOf (s_X11_lacking F M))), (0, .ref (ad (9, 0)))]) hx hb dX10_whole_71 hl (k := 3) rfl (nI_add (2 * i1) 2) (by decide) rfl (fun ls hl => ?_)
          refine lv_goto (tgt := 26) hx hb dX10_whole_74 (by decide) ?_
          have e9 : L_cw F M Y (i1 + 1) = (s_X11_bitsOf (nI (2 * i1)), nI (2 * i1)) := by rw [L_cw]; rw [if_neg c1, if_neg c3, if_pos c4]
          refine kk1 ls (show lv_has ls 6 [(4, .int (nI (2 * (i1 + 1)))), (3, .int ((L_cw F M Y (i1 + 1)).2)), (2, .int ((L_cw F M Y (i1 + 1)).1)), (1, .int (s_X11_bitsOf (s_X11_lacking F M))), (0, .ref (ad (9, 0)))] from ?_)
          rw [e9]; exact lv_sub hl [0, 1, 2, 4, 5] rfl
  · replace hl : lv_has ls 6 [(4, .int (nI (2 * n32))), (3, .int ((L_cw F M Y n32).2)), (2, .int ((L_cw F M Y n32).1)), (1, .int (s_X11_bitsOf (s_X11_lacking F M))), (0, .ref (ad (9, 0)))] := hl
    refine lv_iload hx hb dX10_whole_26 (lv_at hl 0 rfl) ?_
    refine lv_bipush (v := 62) hx hb dX10_whole_28 (by decide) ?_
    refine lv_icmp_gt (tgt := 77) hx hb dX10_whole_30 (by decide) (fun _ => ?_) (fun c => absurd lb_y62 c)
    have cwh := cw_eq (Y := Y) hI hJ n32 (by rw [n32_eq]; decide)
    replace hP : va_P (dC, dI) vwCl (rx_W rl ad (eC ad cy F (va_up (va_up (va_up M 46 ((L_whole F M n32).2.1)) 47 ((L_whole F M n32).2.2.1)) 48 ((L_whole F M n32).2.2.2)) (wgY F M Y))) H := ec_mp (ec_46 ad cy F M (wgY F M Y) _ _ _) hP
    replace hD : va_D A (rx_W rl ad (eC ad cy F (va_up (va_up (va_up M 46 ((L_whole F M n32).2.1)) 47 ((L_whole F M n32).2.2.1)) 48 ((L_whole F M n32).2.2.2)) (wgY F M Y))) := rx_D hD
    refine lv_iload_n hx hb dX10_whole_77 rfl (lv_at hl 2 rfl) ?_
    refine lv_bipush (v := (-9)) hx hb dX10_whole_78 (by decide) ?_
    refine lv_icmp_eq (tgt := 88) hx hb dX10_whole_80 (by decide) (fun c5 => ?_) (fun c5 => ?_)
    · refine lv_iload_n hx hb dX10_whole_88 rfl (lv_at hl 2 rfl) ?_
      have E9 : s_X11_whole F M  = ((L_cw F M Y n32).1, (F, va_up (va_up (va_up M 46 ((L_whole F M n32).2.1)) 47 ((L_whole F M n32).2.2.1)) 48 ((L_whole F M n32).2.2.2))) := by exact cw_y cwh c5
      exact W.iret (v := (L_cw F M Y n32).1) hx hb hr (fun t ht hW => ⟨⟨(L_cw F M Y n32).1, wgY F M Y, rfl, by rw [E9], by rw [E9]; exact ⟨⟨by rw [ht]; exact hP, va_K.moved hW.alike hK, nst_w hW hN⟩, hD⟩⟩, hS.F ht⟩) hS.2.2 dX10_whole_89
    · refine lv_aload_n hx hb dX10_whole_83 rfl (lv_at hl 4 rfl) ?_
      refine lv_iload_n hx hb dX10_whole_84 rfl (lv_at hl 1 rfl) ?_
      refine rg_put (D := (dC, dI)) (r := (9, 0)) (ci := 9) (v := .int ((L_cw F M Y n32).2)) (ty := .int) (C := RX10) (T := TX10) (N := 19) hx hb hts hin10 tyX10 tyX10_ok nmX10 hown hK hP hD hS ((hrl _).mpr (vd_9 (by decide))) en_9 rfl 16 (by decide) (hts (.fieldLink RX10 176 "SocietyBook" "lastAsked" "I") (by decide +kernel)) (fun _ h9 => h9) rfl (by decide +kernel) rfl rfl (Nat.le_of_ble_eq_true rfl) dX10_whole_85 (fun H locs hP hD hS => ?_)
      replace hP : va_P (dC, dI) vwCl (rx_W rl ad (eC ad cy (va_up F 2 ((L_cw F M Y n32).2)) (va_up (va_up (va_up M 46 ((L_whole F M n32).2.1)) 47 ((L_whole F M n32).2.2.1)) 48 ((L_whole F M n32).2.2.2)) (wgY F M Y))) H := ec_mp1 (vd_u9 hrl) (ec_9_16 ad cy F (va_up (va_up (va_up M 46 ((L_whole F M n32).2.1)) 47 ((L_whole F M n32).2.2.1)) 48 ((L_whole F M n32).2.2.2)) (wgY F M Y) ((L_cw F M Y n32).2)) hP
      replace hD : va_D A (rx_W rl ad (eC ad cy (va_up F 2 ((L_cw F M Y n32).2)) (va_up (va_up (va_up M 46 ((L_whole F M n32).2.1)) 47 ((L_whole F M n32).2.2.1)) 48 ((L_whole F M n32).2.2.2)) (wgY F M Y))) := rx_D hD
      refine lv_iload_n hx hb dX10_whole_88 rfl (lv_at hl 2 rfl) ?_
      have E9 : s_X11_whole F M  = ((L_cw F M Y n32).1, (va_up F 2 ((L_cw F M Y n32).2), va_up (va_up (va_up M 46 ((L_whole F M n32).2.1)) 47 ((L_whole F M n32).2.2.1)) 48 ((L_whole F M n32).2.2.2))) := by exact cw_n cwh c5
      exact W.iret (v := (L_cw F M Y n32).1) hx hb hr (fun t ht hW => ⟨⟨(L_cw F M Y n32).1, wgY F M Y, rfl, by rw [E9], by rw [E9]; exact ⟨⟨by rw [ht]; exact hP, va_K.moved hW.alike hK, nst_w hW hN⟩, hD⟩⟩, hS.F ht⟩) hS.2.2 dX10_whole_89
