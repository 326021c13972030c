
theorem ct_b (A B : Nat → Int32) (m f : Nat) : ∀ n, ∃ c, c ≤ n ∧ ct_A A B m f n = nI c := by
  intro n
  induction n with
  | zero => exact ⟨0, Nat.le_refl 0, rfl⟩
  | succ n ih =>
    obtain ⟨c, h1, h2⟩ := ih
    rw [ct_A]
    by_cases q : A n = nI m ∧ B n = nI f
    · rw [if_pos q, h2]; exact ⟨c + 1, by omega, nI_1 c⟩
    · rw [if_neg q]; exact ⟨c, by omega, h2⟩
theorem ls_k (A B C : Nat → Int32) (m f : Nat) : ∀ n, n < 2 ^ 30 → 0 < ct_A A B m f n → ∃ k, k < n ∧ ls_A A B C m f n = C k := by
  intro n
  induction n with
  | zero => intro _ h; exact absurd (show (0 : Int32) < 0 from h) (by decide)
  | succ n ih =>
    intro hn h
    rw [ls_A]
    by_cases q : A n = nI m ∧ B n = nI f
    · rw [if_pos q]; exact ⟨n, by omega, rfl⟩
    · rw [if_neg q]
      rw [ct_A, if_neg q] at h
      obtain ⟨k, h1, h2⟩ := ih (by omega) h
      exact ⟨k, by omega, h2⟩
theorem ct_p (A B : Nat → Int32) (m f n : Nat) (hn : n < 2 ^ 30) : 0 < ct_A A B m f n + 1 := by
  obtain ⟨c, h1, h2⟩ := ct_b A B m f n
  rw [h2, nI_1]
  exact ib_lt.mpr (by rw [ib_0, nI_toInt (by omega)]; omega)
theorem hs_n {F : Nat → Int32} {M : Nat → Nat → Int32} {p0 p1 : Int32} (h0 : 0 ≤ p0) (h1 : 0 ≤ p1) (h3 : 0 ≤ F 3 ∧ F 3 ≤ 30000) : ∀ n, n < 2 ^ 30 → (∀ i, i < n → (0 ≤ M 41 i ∧ M 41 i ≤ F 3 ∧ ∀ j, j ≤ i → M 41 j ≤ M 41 i)) → (L_hadSoon F M p0 p1 n = 0 ↔ ¬ ((0 < ct_A (M 39) (M 40) p0.toNatClampNeg p1.toNatClampNeg n) ∧ ((F 3 - ls_A (M 39) (M 40) (M 41) p0.toNatClampNeg p1.toNatClampNeg n) < M 36 p0.toNatClampNeg))) := by
  intro n
  induction n with
  | zero => intro _ _; constructor
            · intro _ q; exact absurd (show (0 : Int32) < 0 from q.1) (by decide)
            · intro _; rfl
  | succ n ih =>
    intro hn hm
    have ih := ih (by omega) (fun i hi => hm i (by omega))
    have hmn := hm n (by omega)
    rw [L_hadSoon, ct_A, ls_A, nI_bk h0, nI_bk h1]
    by_cases c1 : M 39 n = p0
    · by_cases c2 : M 40 n = p1
      · have c12 : M 39 n = p0 ∧ M 40 n = p1 := ⟨c1, c2⟩
        rw [if_pos c12, if_pos c12, if_pos c1, if_pos c2]
        have hp := ct_p (M 39) (M 40) p0.toNatClampNeg p1.toNatClampNeg n (by omega)
        by_cases c0 : L_hadSoon F M p0 p1 n = 0
        · rw [if_pos c0]
          by_cases c3 : M 36 p0.toNatClampNeg ≤ F 3 - M 41 n
          · rw [if_pos c3]
            exact ⟨fun _ q => absurd q.2 (Int32.not_lt.mpr c3), fun _ => rfl⟩
          · rw [if_neg c3]
            exact ⟨fun q => absurd q (by decide), fun q => absurd ⟨hp, Int32.not_le.mp c3⟩ q⟩
        · rw [if_neg c0]
          refine ⟨fun q => absurd q (by decide), fun q => absurd ?_ q⟩
          have hq : (0 < ct_A (M 39) (M 40) p0.toNatClampNeg p1.toNatClampNeg n) ∧ ((F 3 - ls_A (M 39) (M 40) (M 41) p0.toNatClampNeg p1.toNatClampNeg n) < M 36 p0.toNatClampNeg) := Classical.not_not.mp (fun z => c0 (ih.mpr z))
          obtain ⟨k, hk, e⟩ := ls_k (M 39) (M 40) (M 41) _ _ n (by omega) hq.1
          have h2 := hq.2
          rw [e] at h2
          refine ⟨hp, ?_⟩
          have a1 := ib_le.mp (hmn.2.2 k (by omega))
          have a2 := ib_le.mp hmn.2.1
          have a3 := ib_le.mp hmn.1
          have a4 := ib_le.mp (hm k (by omega)).1
          have a5 := ib_le.mp h3.2
          have a6 := ib_lt.mp h2
          have e30 : (30000 : Int32).toInt = 30000 := by decide
          rw [ib_0] at a3 a4
          rw [e30] at a5
          rw [ib_sub (by omega) (by omega)] at a6
          exact ib_lt.mpr (by rw [ib_sub (by omega) (by omega)]; omega)
      · have c12 : ¬ (M 39 n = p0 ∧ M 40 n = p1) := fun q => c2 q.2
        rw [if_neg c12, if_neg c12, if_pos c1, if_neg c2, ← ih]
        by_cases c0 : L_hadSoon F M p0 p1 n = 0
        · rw [if_pos c0]; exact ⟨fun _ => c0, fun _ => rfl⟩
        · rw [if_neg c0]; exact ⟨fun q => absurd q (by decide), fun q => absurd q c0⟩
    · have c12 : ¬ (M 39 n = p0 ∧ M 40 n = p1) := fun q => c1 q.1
      rw [if_neg c12, if_neg c12, if_neg c1, ← ih]
      by_cases c0 : L_hadSoon F M p0 p1 n = 0
      · rw [if_pos c0]; exact ⟨fun _ => c0, fun _ => rfl⟩
      · rw [if_neg c0]; exact ⟨fun q => absurd q (by decide), fun q => absurd q c0⟩
theorem hs_eq {F : Nat → Int32} {M : Nat → Nat → Int32} {p0 p1 : Int32} (hI : iv F M) (hJ : jv F M) (h0 : 0 ≤ p0) (h1 : 0 ≤ p1) : (s_X11_hadSoon F M p0 p1 = 0 ↔ ¬ ((0 < ct_A (M 39) (M 40) p0.toNatClampNeg p1.toNatClampNeg (F 38).toNatClampNeg) ∧ ((F 3 - ls_A (M 39) (M 40) (M 41) p0.toNatClampNeg p1.toNatClampNeg (F 38).toNatClampNeg) < M 36 p0.toNatClampNeg))) := by
  unfold s_X11_hadSoon
  have hn : (F 38).toNatClampNeg ≤ 60 := lb_le (iv_38 hI) (by decide)
  exact hs_n h0 h1 (iv_3 hI) _ (by omega) (jv_a hJ)
theorem ct_up (A B : Nat → Int32) (x y : Int32) (m f N : Nat) : ∀ n, n ≤ N → ct_A (upd A N x) (upd B N y) m f n = ct_A A B m f n := by
  intro n
  induction n with
  | zero => intro _; rfl
  | succ n ih =>
    intro h
    have e1 : upd A N x n = A n := by unfold upd; rw [if_neg (by omega)]
    have e2 : upd B N y n = B n := by unfold upd; rw [if_neg (by omega)]
    rw [ct_A, ct_A, ih (by omega), e1, e2]
theorem ls_up (A B C : Nat → Int32) (x y z : Int32) (m f N : Nat) : ∀ n, n ≤ N → ls_A (upd A N x) (upd B N y) (upd C N z) m f n = ls_A A B C m f n := by
  intro n
  induction n with
  | zero => intro _; rfl
  | succ n ih =>
    intro h
    have e1 : upd A N x n = A n := by unfold upd; rw [if_neg (by omega)]
    have e2 : upd B N y n = B n := by unfold upd; rw [if_neg (by omega)]
    have e3 : upd C N z n = C n := by unfold upd; rw [if_neg (by omega)]
    rw [ls_A, ls_A, ih (by omega), e1, e2, e3]
theorem nI_ij {x : Int32} {k : Nat} (h : 0 ≤ x) (hk : k < 2 ^ 31) : x = nI k ↔ k = x.toNatClampNeg := by
  constructor
  · intro q; rw [q, nI_clamp hk]
  · intro q; rw [q, nI_bk h]
theorem cl_s {x : Int32} {N : Nat} (h : vp_in x N) (hN : N < 2 ^ 31) : (x + 1).toNatClampNeg = x.toNatClampNeg + 1 := by
  obtain ⟨k, h1, h2⟩ := vp_in_of h hN
  rw [h2, nI_1, nI_clamp (by omega), nI_clamp (by omega)]
theorem ct_new (A B : Nat → Int32) (p0 p1 : Int32) (h0 : 0 ≤ p0) (h1 : 0 ≤ p1) (n i f : Nat) (hi : i < 2 ^ 31) (hf : f < 2 ^ 31) : ct_A (upd A n p0) (upd B n p1) i f (n + 1) = if i = p0.toNatClampNeg ∧ f = p1.toNatClampNeg then ct_A A B i f n + 1 else ct_A A B i f n := by
  have e1 : upd A n p0 n = p0 := by unfold upd; rw [if_pos rfl]
  have e2 : upd B n p1 n = p1 := by unfold upd; rw [if_pos rfl]
  rw [ct_A, ct_up _ _ _ _ _ _ _ n (Nat.le_refl n), e1, e2]
  by_cases q : i = p0.toNatClampNeg ∧ f = p1.toNatClampNeg
  · rw [if_pos q, if_pos ⟨(nI_ij h0 hi).mpr q.1, (nI_ij h1 hf).mpr q.2⟩]
  · rw [if_neg q, if_neg (fun z => q ⟨(nI_ij h0 hi).mp z.1, (nI_ij h1 hf).mp z.2⟩)]
theorem ls_new (A B C : Nat → Int32) (p0 p1 z : Int32) (h0 : 0 ≤ p0) (h1 : 0 ≤ p1) (n i f : Nat) (hi : i < 2 ^ 31) (hf : f < 2 ^ 31) : ls_A (upd A n p0) (upd B n p1) (upd C n z) i f (n + 1) = if i = p0.toNatClampNeg ∧ f = p1.toNatClampNeg then z else ls_A A B C i f n := by
  have e1 : upd A n p0 n = p0 := by unfold upd; rw [if_pos rfl]
  have e2 : upd B n p1 n = p1 := by unfold upd; rw [if_pos rfl]
  have e3 : upd C n z n = z := by unfold upd; rw [if_pos rfl]
  rw [ls_A, ls_up _ _ _ _ _ _ _ _ _ n (Nat.le_refl n), e1, e2, e3]
  by_cases q : i = p0.toNatClampNeg ∧ f = p1.toNatClampNeg
  · rw [if_pos q, if_pos ⟨(nI_ij h0 hi).mpr q.1, (nI_ij h1 hf).mpr q.2⟩]
  · rw [if_neg q, if_neg (fun z => q ⟨(nI_ij h0 hi).mp z.1, (nI_ij h1 hf).mp z.2⟩)]
theorem aw_e (ad : Nat × Nat → Nat) (cy : Nat → ClassId) (F : Nat → Int32) (M Y : Nat → Nat → Int32) (p0 p1 : Int32) (h0 : 0 ≤ p0) (h1 : 0 ≤ p1) (hn : vp_in (F 38) 60) (hf1 : p1.toNatClampNeg < 16) (r : Nat × Nat) (hr : vd F r) :
    ru_ (ru_ (ru_ (eC ad cy F M Y) (22, p0.toNatClampNeg) (.inl (cy 0, 16, .inl (upd (fun f => if f < 16 then ct_A (M 39) (M 40) p0.toNatClampNeg f (F 38).toNatClampNeg else 0) p1.toNatClampNeg (ct_A (M 39) (M 40) p0.toNatClampNeg p1.toNatClampNeg (F 38).toNatClampNeg + 1))))) (23, p0.toNatClampNeg) (.inl (cy 0, 16, .inl (upd (fun f => if f < 16 then ls_A (M 39) (M 40) (M 41) p0.toNatClampNeg f (F 38).toNatClampNeg else 0) p1.toNatClampNeg (F 3))))) (9, 0) (.inr (9, [.int (F 3), .int (F 4), .ref (ad (10, 0)), .ref (ad (11, 0)), .int (F 7), .int (F 16), .ref (ad (12, 0)), .int (F 21), .ref (ad (13, 0)), .int (F 25), .ref (ad (14, 0)), .int (F 32), .ref (ad (16, 0)), .int (F 38 + 1), .ref (ad (2, 0)), .ref (ad (17, 0)), .int (F 2), .int (F 0), .ref (ad (18, 0))])) r
    = eC ad cy (va_up F 38 (F 38 + 1)) (va_up (va_up (va_up M 39 (upd (M 39) (F 38).toNatClampNeg p0)) 40 (upd (M 40) (F 38).toNatClampNeg p1)) 41 (upd (M 41) (F 38).toNatClampNeg (F 3))) Y r := by
  have hcl := cl_s hn (by decide)
  have e1 : va_up F 38 (F 38 + 1) 38 = F 38 + 1 := rfl
  obtain ⟨c, i⟩ := r
  by_cases h9 : (c, i) = (9, 0)
  · rw [h9, ru_s]; rfl
  · rw [ru_n h9]
    by_cases h23 : (c, i) = (23, p0.toNatClampNeg)
    · rw [h23, ru_s, en_23]
      refine congrArg (fun z => Sum.inl (cy 0, 16, Sum.inl z)) (funext fun f => ?_)
      show upd _ p1.toNatClampNeg (F 3) f = if f < 16 then ls_A (upd (M 39) (F 38).toNatClampNeg p0) (upd (M 40) (F 38).toNatClampNeg p1) (upd (M 41) (F 38).toNatClampNeg (F 3)) p0.toNatClampNeg f (F 38 + 1).toNatClampNeg else 0
      rw [hcl]
      by_cases hf : f < 16
      · rw [if_pos hf, ls_new (M 39) (M 40) (M 41) p0 p1 (F 3) h0 h1 _ p0.toNatClampNeg f (ib_c31 p0) (by omega)]
        unfold upd
        by_cases hq : f = p1.toNatClampNeg
        · rw [if_pos hq, if_pos ⟨rfl, hq⟩]
        · rw [if_neg hq, if_neg (fun z => hq z.2)]; exact if_pos hf
      · rw [if_neg hf]
        unfold upd
        rw [if_neg (by omega)]; exact if_neg hf
    · rw [ru_n h23]
      by_cases h22 : (c, i) = (22, p0.toNatClampNeg)
      · rw [h22, ru_s, en_22]
        refine congrArg (fun z => Sum.inl (cy 0, 16, Sum.inl z)) (funext fun f => ?_)
        show upd _ p1.toNatClampNeg (ct_A (M 39) (M 40) p0.toNatClampNeg p1.toNatClampNeg (F 38).toNatClampNeg + 1) f = if f < 16 then ct_A (upd (M 39) (F 38).toNatClampNeg p0) (upd (M 40) (F 38).toNatClampNeg p1) p0.toNatClampNeg f (F 38 + 1).toNatClampNeg else 0
        rw [hcl]
        by_cases hf : f < 16
        · rw [if_pos hf, ct_new (M 39) (M 40) p0 p1 h0 h1 _ p0.toNatClampNeg f (ib_c31 p0) (by omega)]
          unfold upd
          by_cases hq : f = p1.toNatClampNeg
          · rw [if_pos hq, if_pos ⟨rfl, hq⟩, hq]
          · rw [if_neg hq, if_neg (fun z => hq z.2)]; exact if_pos hf
        · rw [if_neg hf]
          unfold upd
          rw [if_neg (by omega)]; exact if_neg hf
      · rw [ru_n h22]
        by_cases c22 : c = 22
        · subst c22
          have hi : i < 4 := by simp [vd] at hr; exact hr
          have hne : ¬ i = p0.toNatClampNeg := fun q => h22 (by rw [q])
          rw [en_22, en_22]
          refine congrArg (fun z => Sum.inl (cy 0, 16, Sum.inl z)) (funext fun f => ?_)
          show _ = if f < 16 then ct_A (upd (M 39) (F 38).toNatClampNeg p0) (upd (M 40) (F 38).toNatClampNeg p1) i f (F 38 + 1).toNatClampNeg else 0
          rw [hcl]
          by_cases hf : f < 16
          · rw [if_pos hf, if_pos hf, ct_new (M 39) (M 40) p0 p1 h0 h1 _ i f (by omega) (by omega), if_neg (fun z => hne z.1)]
          · rw [if_neg hf, if_neg hf]
        · by_cases c23 : c = 23
          · subst c23
            have hi : i < 4 := by simp [vd] at hr; exact hr
            have hne : ¬ i = p0.toNatClampNeg := fun q => h23 (by rw [q])
            rw [en_23, en_23]
            refine congrArg (fun z => Sum.inl (cy 0, 16, Sum.inl z)) (funext fun f => ?_)
            show _ = if f < 16 then ls_A (upd (M 39) (F 38).toNatClampNeg p0) (upd (M 40) (F 38).toNatClampNeg p1) (upd (M 41) (F 38).toNatClampNeg (F 3)) i f (F 38 + 1).toNatClampNeg else 0
            rw [hcl]
            by_cases hf : f < 16
            · rw [if_pos hf, if_pos hf, ls_new (M 39) (M 40) (M 41) p0 p1 (F 3) h0 h1 _ i f (by omega) (by omega), if_neg (fun z => hne z.1)]
            · rw [if_neg hf, if_neg hf]
          · by_cases c9 : c = 9
            · subst c9
              have hi : i < 1 := by simp [vd] at hr; omega
              exact absurd (by rw [show i = 0 by omega]) h9
            · simp [eC, va_up, c22, c23, c9]

set_option maxHeartbeats 4000000 in
set_option maxRecDepth 100000 in
theorem c_X10_award (l : Launch) (dC : Nat → ClassId) (dI : Nat → Nat → Nat) (rl : List (Nat × Nat)) (ad : Nat × Nat → Nat) (cy : Nat → ClassId) (F : Nat → Int32) (M Y : Nat → Nat → Int32) (p0 : Int32) (p1 : Int32) (hrl : ∀ r, r ∈ rl ↔ vd F r) (hI : iv F M) (hJ : jv F M) (A : Nat → Prop) (hD : va_D A (rx_W rl ad (eC ad cy F M Y))) : Met l yX10_award wsX10_award ({ frames := 2, cells := 0, slots := 0, locals := 46 } : Room) (va_Pc [.ref (ad (9, 0)), .int p0, .int p1] (pC dC dI rl ad cy (eC ad cy F M Y))) (va_Qi (fun r (_ : Nat → Nat → Int32) => r = (s_X11_award F M p0 p1).1) (qC A dC dI rl ad cy (s_X11_award F M p0 p1).2.1 (s_X11_award F M p0 p1).2.2) A) 0 0 A := by
  refine Met.ofW (cc := cX10_award) (maxL := 4) (ret := (some .int)) (by decide) rfl ?_
  intro p e s m args below meth c s₁ B hml hv
  obtain ⟨rfl, hP, hK, hN⟩ := hv
  have hx := B.exec
  have hb := B.bytes
  have hr := B.returns
  have hts := atoms_spec (ws := wsX10_award) B.pre
  have hown : s.vm.findClass RX10 = some m.cls := findClass_of_methodNamed B.named
  have hlocks := B.notSynchronized
  have hin10 : ∀ w ∈ wsX100, w ∈ wsX10_award := by decide +kernel
  have hin3 : ∀ w ∈ wsX30, w ∈ wsX10_award := by decide +kernel
  have hS : va_S A s.heap s.heap [] := va_S.rf
  have hl := lv_entry ([.ref (ad (9, 0)), .int p0, .int p1]) (n := 4) (Nat.le_of_ble_eq_true rfl)
  rw [lg_entry_eq]
  generalize (lg_sl ([.ref (ad (9, 0)), .int p0, .int p1]) ++ List.replicate (4 - (lg_sl ([.ref (ad (9, 0)), .int p0, .int p1])).length) Slot.unset).toArray = ls at hl ⊢
  have hl : lv_has ls 4 [(0, .ref (ad (9, 0))), (1, .int p0), (2, .int p1)] := hl
  refine lv_iload_n hx hb dX10_award_0 rfl (lv_at hl 1 rfl) ?_
  refine lv_iconst (v := 0) hx hb dX10_award_1 (by decide) ?_
  refine lv_iconst (v := 3) hx hb dX10_award_2 (by decide) ?_
  refine vp_callSi (W.runS (As := [.int p0, .int 0, .int 3]) (rest := []) ⟨hx, hb, hml, hown, hts⟩ (c_X10_isWithin l p0 0 3) (va_cwS 3 hts gX10_award_X10_isWithin rfl rfl rfl (by decide +kernel) ⟨Nat.le_of_ble_eq_true rfl, Nat.le_of_ble_eq_true rfl⟩) ⟨fun _ _ _ _ q => q, fun U hU hW => ⟨rfl, trivial⟩⟩ rfl rfl hl.1 rfl (lv_room (Nat.le_of_ble_eq_true rfl)) dX10_award_3 ⟨Nat.zero_le _, Nat.zero_le _⟩) (fun r hr9 => ?_)
  subst hr9
  refine lv_if_eq (tgt := 17) hx hb dX10_award_6 (by decide) (fun c1 => ?_) (fun c1 => ?_)
  · replace c1 := bo_f c1
    refine lv_iconst (v := (-1)) hx hb dX10_award_17 (by decide) ?_
    have E9 : s_X11_award F M p0 p1 = ((-1), (F, M)) := by unfold s_X11_award; rw [if_neg c1]
    exact W.iret (v := (-1)) hx hb hr (fun t ht hW => ⟨⟨(-1), Y, rfl, by rw [E9], by rw [E9]; exact ⟨⟨by rw [ht]; exact hP, va_K.moved hW.alike hK, nst_w hW hN⟩, hD⟩⟩, hS.F ht⟩) hS.2.2 dX10_award_18
  · replace c1 := bo_t c1
    refine lv_aload_n hx hb dX10_award_9 rfl (lv_at hl 0 rfl) ?_
    refine lv_iload_n hx hb dX10_award_10 rfl (lv_at hl 2 rfl) ?_
    refine vp_callSi (W.runV (As := [.int p1]) (rest := []) ⟨hx, hb, hml, hown, hts⟩ (c_X10_isFellow l dC dI rl ad cy F M Y  p1 hrl hI hJ ) (cwV 1 hts gX10_award_X10_isFellow rfl rfl rfl (by decide +kernel) ⟨Nat.le_of_ble_eq_true rfl, Nat.le_of_ble_eq_true rfl⟩) ⟨pc_blind, rg_recv hK hP ((hrl _).mpr (vd_9 (by decide))) (ci := 9) rfl en_9, fun U hU hW => ⟨rfl, by rw [hU]; exact hP, va_K.moved hW.alike hK, nst_w hW hN⟩⟩ rfl rfl hl.1 rfl (lv_room (Nat.le_of_ble_eq_true rfl)) dX10_award_11 ⟨Nat.zero_le _, Nat.zero_le _⟩) (fun r hr9 => ?_)
    subst hr9
    refine lv_if_ne (tgt := 19) hx hb dX10_award_14 (by decide) (fun c2 => ?_) (fun c2 => ?_)
    · replace c2 := bo_t c2
      refine lv_aload_n hx hb dX10_award_19 rfl (lv_at hl 0 rfl) ?_
      refine rg_get (D := (dC, dI)) (r := (9, 0)) (ci := 9) (v := .int (F 38)) (C := RX10) (T := TX10) (N := 19) hx hb hts hin10 hown hK hP ((hrl _).mpr (vd_9 (by decide))) en_9 rfl 13 (by decide) (hts (.fieldLink RX10 212 "SocietyBook" "awardCount" "I") (by decide +kernel)) (fun _ h9 => h9) rfl dX10_award_20 ?_
      refine lv_bipush (v := 60) hx hb dX10_award_23 (by decide) ?_
      refine lv_icmp_lt (tgt := 31) hx hb dX10_award_25 (by decide) (fun c3 => ?_) (fun c3 => ?_)
      · refine lv_aload_n hx hb dX10_award_31 rfl (lv_at hl 0 rfl) ?_
        refine rg_get (D := (dC, dI)) (r := (9, 0)) (ci := 9) (v := .ref (ad (16, 0))) (C := RX10) (T := TX10) (N := 19) hx hb hts hin10 hown hK hP ((hrl _).mpr (vd_9 (by decide))) en_9 rfl 12 (by decide) (hts (.fieldLink RX10 41 "SocietyBook" "medalRow" "[LSocietyBook$Medal;") (by decide +kernel)) (fun _ h9 => h9) rfl dX10_award_32 ?_
        refine lv_iload_n hx hb dX10_award_35 rfl (lv_at hl 1 rfl) ?_
        refine rg_aldq (r := (16, 0)) (v := .ref (ad (3, p0.toNatClampNeg))) hx hb hK hP ((hrl _).mpr (vd_16 (by decide))) 8 en_16 rfl (ib_in c1 (by decide)) rfl dX10_award_36 ?_
        refine lv_astore_n (lv' := [(3, .ref (ad (3, p0.toNatClampNeg))), (0, .ref (ad (9, 0))), (1, .int p0), (2, .int p1)]) hx hb dX10_award_37 rfl hl (by decide) rfl (fun ls hl => ?_)
        refine lv_aload_n hx hb dX10_award_38 rfl (lv_at hl 0 rfl) ?_
        refine lv_iload_n hx hb dX10_award_39 rfl (lv_at hl 3 rfl) ?_
        refine lv_aload_n hx hb dX10_award_40 rfl (lv_at hl 1 rfl) ?_
        refine rg_get (D := (dC, dI)) (r := (9, 0)) (ci := 9) (v := .int (F 3)) (C := RX10) (T := TX10) (N := 19) hx hb hts hin10 hown hK hP ((hrl _).mpr (vd_9 (by decide))) en_9 rfl 0 (by decide) (hts (.fieldLink RX10 65 "SocietyBook" "today" "I") (by decide +kernel)) (fun _ h9 => h9) rfl dX10_award_41 ?_
        refine vp_callSi (W.runV (As := [.int p1, .int (F 3)]) (rest := []) ⟨hx, hb, hml, hown, hts⟩ (c_X3_hadTooSoon l dC dI rl ad cy F M Y p0.toNatClampNeg p1 (F 3) hrl hI hJ (ib_cl (ib_in c1 (by decide))).2 (ib_cn c2 (iv_4 hI) (by decide))) (cwV 2 hts gX10_award_X3_hadTooSoon rfl rfl rfl (by decide +kernel) ⟨Nat.le_of_ble_eq_true rfl, Nat.le_of_ble_eq_true rfl⟩) ⟨pc_blind, rg_recv hK hP ((hrl _).mpr (vd_3 (ib_cl (ib_in c1 (by decide))).2)) (ci := 3) rfl en_3, fun U hU hW => ⟨rfl, by rw [hU]; exact hP, va_K.moved hW.alike hK, nst_w hW hN⟩⟩ rfl rfl hl.1 rfl (lv_room (Nat.le_of_ble_eq_true rfl)) dX10_award_44 ⟨Nat.zero_le _, Nat.zero_le _⟩) (fun r hr9 => ?_)
        subst hr9
        refine lv_if_eq (tgt := 52) hx hb dX10_award_47 (by decide) (fun c4 => ?_) (fun c4 => ?_)
        · replace c4 := bo_f c4
          refine lv_aload_n hx hb dX10_award_52 rfl (lv_at hl 1 rfl) ?_
          refine lv_iload_n hx hb dX10_award_53 rfl (lv_at hl 3 rfl) ?_
          refine lv_aload_n hx hb dX10_award_54 rfl (lv_at hl 0 rfl) ?_
          refine rg_get (D := (dC, dI)) (r := (3, p0.toNatClampNeg)) (ci := 3) (v := .int (M 37 p0.toNatClampNeg)) (C := RX3) (T := TX3) (N := 4) hx hb hts hin3 hown hK hP ((hrl _).mpr (vd_3 (ib_cl (ib_in c1 (by decide))).2)) en_3 rfl 1 (by decide) (hts (.fieldLink RX10 209 "SocietyBook$Medal" "within" "I") (by decide +kernel)) (fun _ h9 => h9) rfl dX10_award_55 ?_
          refine vp_callSi (W.runV (As := [.int p1, .int (M 37 p0.toNatClampNeg)]) (rest := []) ⟨hx, hb, hml, hown, hts⟩ (c_X10_hasPrinted l dC dI rl ad cy F M Y p0.toNatClampNeg p1 hrl hI hJ (ib_cl (ib_in c1 (by decide))).2) (cwV 2 hts gX10_award_X10_hasPrinted rfl rfl rfl (by decide +kernel) ⟨Nat.le_of_ble_eq_true rfl, Nat.le_of_ble_eq_true rfl⟩) ⟨pc_blind, rg_recv hK hP ((hrl _).mpr (vd_9 (by decide))) (ci := 9) rfl en_9, fun U hU hW => ⟨rfl, by rw [hU]; exact hP, va_K.moved hW.alike hK, nst_w hW hN⟩⟩ rfl rfl hl.1 rfl (lv_room (Nat.le_of_ble_eq_true rfl)) dX10_award_58 ⟨Nat.zero_le _, Nat.zero_le _⟩) (fun r hr9 => ?_)
          subst hr9
          rw [nI_bk (x := p0) c1.1]
          refine lv_if_ne (tgt := 66) hx hb dX10_award_61 (by decide) (fun c5 => ?_) (fun c5 => ?_)
          · refine lv_aload_n hx hb dX10_award_66 rfl (lv_at hl 0 rfl) ?_
            refine rg_get (D := (dC, dI)) (r := (3, p0.toNatClampNeg)) (ci := 3) (v := .ref (ad (22, p0.toNatClampNeg))) (C := RX3) (T := TX3) (N := 4) hx hb hts hin3 hown hK hP ((hrl _).mpr (vd_3 (ib_cl (ib_in c1 (by decide))).2)) en_3 rfl 2 (by decide) (hts (.fieldLink RX10 221 "SocietyBook$Medal" "times" "[I") (by decide +kernel)) (fun _ h9 => h9) rfl dX10_award_67 ?_
            refine lv_iload_n hx hb dX10_award_70 rfl (lv_at hl 3 rfl) ?_
            refine lv_dup2_11 hx hb dX10_award_71 rfl rfl ?_
            refine rg_iald (r := (22, p0.toNatClampNeg)) (v := ct_A (M 39) (M 40) p0.toNatClampNeg p1.toNatClampNeg (F 38).toNatClampNeg) hx hb hK hP ((hrl _).mpr (vd_22 (ib_cl (ib_in c1 (by decide))).2)) 0 en_22 rfl (ib_cn c2 (iv_4 hI) (by decide)) (by exact if_pos (ib_cl (ib_cn c2 (iv_4 hI) (by decide))).2) dX10_award_72 ?_
            refine lv_iconst (v := 1) hx hb dX10_award_73 (by decide) ?_
            refine lv_iadd hx hb dX10_award_74 ?_
            refine rg_iast (r := (22, p0.toNatClampNeg)) hx hb hK hP hD hS ((hrl _).mpr (vd_22 (ib_cl (ib_in c1 (by decide))).2)) 0 en_22 rfl (ib_cn c2 (iv_4 hI) (by decide)) dX10_award_75 (fun H locs hP hD hS => ?_)
            replace hP : va_P (dC, dI) vwCl (rx_W rl ad (ru_ (eC ad cy F M Y) (22, p0.toNatClampNeg) (.inl (cy 0, 16, .inl (upd (fun f => if f < 16 then ct_A (M 39) (M 40) p0.toNatClampNeg f (F 38).toNatClampNeg else 0) p1.toNatClampNeg ((ct_A (M 39) (M 40) p0.toNatClampNeg p1.toNatClampNeg (F 38).toNatClampNeg) + 1)))))) H := hP
            replace hD : va_D A (rx_W rl ad (ru_ (eC ad cy F M Y) (22, p0.toNatClampNeg) (.inl (cy 0, 16, .inl (upd (fun f => if f < 16 then ct_A (M 39) (M 40) p0.toNatClampNeg f (F 38).toNatClampNeg else 0) p1.toNatClampNeg ((ct_A (M 39) (M 40) p0.toNatClampNeg p1.toNatClampNeg (F 38).toNatClampNeg) + 1)))))) := hD
            refine lv_aload_n hx hb dX10_award_76 rfl (lv_at hl 0 rfl) ?_
            refine rg_get (D := (dC, dI)) (r := (3, p0.toNatClampNeg)) (ci := 3) (v := .ref (ad (23, p0.toNatClampNeg))) (C := RX3) (T := TX3) (N := 4) hx hb hts hin3 hown hK hP ((hrl _).mpr (vd_3 (ib_cl (ib_in c1 (by decide))).2)) ((ru_n (by intro q; cases q)).trans en_3) rfl 3 (by decide) (hts (.fieldLink RX10 224 "SocietyBook$Medal" "lastDays" "[I") (by decide +kernel)) (fun _ h9 => h9) rfl dX10_award_77 ?_
            refine lv_iload_n hx hb dX10_award_80 rfl (lv_at hl 3 rfl) ?_
            refine lv_aload_n hx hb dX10_award_81 rfl (lv_at hl 1 rfl) ?_
            refine rg_get (D := (dC, dI)) (r := (9, 0)) (ci := 9) (v := .int (F 3)) (C := RX10) (T := TX10) (N := 19) hx hb hts hin10 hown hK hP ((hrl _).mpr (vd_9 (by decide))) ((ru_n (by intro q; cases q)).trans en_9) rfl 0 (by decide) (hts (.fieldLink RX10 65 "SocietyBook" "today" "I") (by decide +kernel)) (fun _ h9 => h9) rfl dX10_award_82 ?_
            refine rg_iast (r := (23, p0.toNatClampNeg)) hx hb hK hP hD hS ((hrl _).mpr (vd_23 (ib_cl (ib_in c1 (by decide))).2)) 0 ((ru_n (by intro q; cases q)).trans en_23) rfl (ib_cn c2 (iv_4 hI) (by decide)) dX10_award_85 (fun H locs hP hD hS => ?_)
            replace hP : va_P (dC, dI) vwCl (rx_W rl ad (ru_ (ru_ (eC ad cy F M Y) (22, p0.toNatClampNeg) (.inl (cy 0, 16, .inl (upd (fun f => if f < 16 then ct_A (M 39) (M 40) p0.toNatClampNeg f (F 38).toNatClampNeg else 0) p1.toNatClampNeg ((ct_A (M 39) (M 40) p0.toNatClampNeg p1.toNatClampNeg (F 38).toNatClampNeg) + 1))))) (23, p0.toNatClampNeg) (.inl (cy 0, 16, .inl (upd (fun f => if f < 16 then ls_A (M 39) (M 40) (M 41) p0.toNatClampNeg f (F 38).toNatClampNeg else 0) p1.toNatClampNeg (F 3)))))) H := hP
            replace hD : va_D A (rx_W rl ad (ru_ (ru_ (eC ad cy F M Y) (22, p0.toNatClampNeg) (.inl (cy 0, 16, .inl (upd (fun f => if f < 16 then ct_A (M 39) (M 40) p0.toNatClampNeg f (F 38).toNatClampNeg else 0) p1.toNatClampNeg ((ct_A (M 39) (M 40) p0.toNatClampNeg p1.toNatClampNeg (F 38).toNatClampNeg) + 1))))) (23, p0.toNatClampNeg) (.inl (cy 0, 16, .inl (upd (fun f => if f < 16 then ls_A (M 39) (M 40) (M 41) p0.toNatClampNeg f (F 38).toNatClampNeg else 0) p1.toNatClampNeg (F 3)))))) := hD
            refine lv_aload_n hx hb dX10_award_86 rfl (lv_at hl 1 rfl) ?_
            refine lv_dup hx hb dX10_award_87 rfl ?_
            refine rg_get (D := (dC, dI)) (r := (9, 0)) (ci := 9) (v := .int (F 38)) (C := RX10) (T := TX10) (N := 19) hx hb hts hin10 hown hK hP ((hrl _).mpr (vd_9 (by decide))) ((ru_n (by intro q; cases q)).trans ((ru_n (by intro q; cases q)).trans en_9)) rfl 13 (by decide) (hts (.fieldLink RX10 212 "SocietyBook" "awardCount" "I") (by decide +kernel)) (fun _ h9 => h9) rfl dX10_award_88 ?_
            refine lv_iconst (v := 1) hx hb dX10_award_91 (by decide) ?_
            refine lv_iadd hx hb dX10_award_92 ?_
            refine rg_put (D := (dC, dI)) (r := (9, 0)) (ci := 9) (v := .int ((F 38) + 1)) (ty := .int) (C := RX10) (T := TX10) (N := 19) hx hb hts hin10 tyX10 tyX10_ok nmX10 hown hK hP hD hS ((hrl _).mpr (vd_9 (by decide))) ((ru_n (by intro q; cases q)).trans ((ru_n (by intro q; cases q)).trans en_9)) rfl 13 (by decide) (hts (.fieldLink RX10 212 "SocietyBook" "awardCount" "I") (by decide +kernel)) (fun _ h9 => h9) rfl (by decide +kernel) rfl rfl (Nat.le_of_ble_eq_true rfl) dX10_award_93 (fun H locs hP hD hS => ?_)
            replace hP : va_P (dC, dI) vwCl (rx_W rl ad (ru_ (ru_ (ru_ (eC ad cy F M Y) (22, p0.toNatClampNeg) (.inl (cy 0, 16, .inl (upd (fun f => if f < 16 then ct_A (M 39) (M 40) p0.toNatClampNeg f (F 38).toNatClampNeg else 0) p1.toNatClampNeg ((ct_A (M 39) (M 40) p0.toNatClampNeg p1.toNatClampNeg (F 38).toNatClampNeg) + 1))))) (23, p0.toNatClampNeg) (.inl (cy 0, 16, .inl (upd (fun f => if f < 16 then ls_A (M 39) (M 40) (M 41) p0.toNatClampNeg f (F 38).toNatClampNeg else 0) p1.toNatClampNeg (F 3))))) (9, 0) (.inr (9, [.int (F 3), .int (F 4), .ref (ad (10, 0)), .ref (ad (11, 0)), .int (F 7), .int (F 16), .ref (ad (12, 0)), .int (F 21), .ref (ad (13, 0)), .int (F 25), .ref (ad (14, 0)), .int (F 32), .ref (ad (16, 0)), .int ((F 38) + 1), .ref (ad (2, 0)), .ref (ad (17, 0)), .int (F 2), .int (F 0), .ref (ad (18, 0))])))) H := hP
            replace hD : va_D A (rx_W rl ad (ru_ (ru_ (ru_ (eC ad cy F M Y) (22, p0.toNatClampNeg) (.inl (cy 0, 16, .inl (upd (fun f => if f < 16 then ct_A (M 39) (M 40) p0.toNatClampNeg f (F 38).toNatClampNeg else 0) p1.toNatClampNeg ((ct_A (M 39) (M 40) p0.toNatClampNeg p1.toNatClampNeg (F 38).toNatClampNeg) + 1))))) (23, p0.toNatClampNeg) (.inl (cy 0, 16, .inl (upd (fun f => if f < 16 then ls_A (M 39) (M 40) (M 41) p0.toNatClampNeg f (F 38).toNatClampNeg else 0) p1.toNatClampNeg (F 3))))) (9, 0) (.inr (9, [.int (F 3), .int (F 4), .ref (ad (10, 0)), .ref (ad (11, 0)), .int (F 7), .int (F 16), .ref (ad (12, 0)), .int (F 21), .ref (ad (13, 0)), .int (F 25), .ref (ad (14, 0)), .int (F 32), .ref (ad (16, 0)), .int ((F 38) + 1), .ref (ad (2, 0)), .ref (ad (17, 0)), .int (F 2), .int (F 0), .ref (ad (18, 0))])))) := hD
            refine lv_iconst (v := 1) hx hb dX10_award_96 (by decide) ?_
            have E9 : s_X11_award F M p0 p1 = (1, (va_up F 38 ((F 38) + 1), va_up (va_up (va_up M 39 (upd (M 39) ((F 38).toNatClampNeg) p0)) 40 (upd (M 40) ((F 38).toNatClampNeg) p1)) 41 (upd (M 41) ((F 38).toNatClampNeg) (F 3)))) := by unfold s_X11_award; rw [if_pos c1]; rw [if_pos c2]; rw [if_neg (fu_f (Int32.not_le.mpr c3))]; rw [if_pos ((hs_eq hI hJ c1.1 c2.1).mpr c4)]; rw [if_neg c5]; skip
            replace hP : va_P (dC, dI) vwCl (rx_W rl ad (eC ad cy (va_up F 38 ((F 38) + 1)) (va_up (va_up (va_up M 39 (upd (M 39) ((F 38).toNatClampNeg) p0)) 40 (upd (M 40) ((F 38).toNatClampNeg) p1)) 41 (upd (M 41) ((F 38).toNatClampNeg) (F 3))) Y)) H := by rw [← rx_cong (fun r hr => aw_e ad cy F M Y p0 p1 c1.1 c2.1 (ib_ct (iv_38 hI) (fu_f (Int32.not_le.mpr c3)) (by decide)) (ib_cl (ib_cn c2 (iv_4 hI) (by decide))).2 r ((hrl r).mp hr))]; exact hP
            replace hD : va_D A (rx_W rl ad (eC ad cy (va_up F 38 ((F 38) + 1)) (va_up (va_up (va_up M 39 (upd (M 39) ((F 38).toNatClampNeg) p0)) 40 (upd (M 40) ((F 38).toNatClampNeg) p1)) 41 (upd (M 41) ((F 38).toNatClampNeg) (F 3))) Y)) := rx_D hD
            exact W.iret (v := 1) hx hb hr (fun t ht hW => ⟨⟨1, Y, rfl, by rw [E9], by rw [E9]; exact ⟨⟨by rw [ht]; exact hP, va_K.moved hW.alike hK, nst_w hW hN⟩, hD⟩⟩, hS.F ht⟩) hS.2.2 dX10_award_97
          · refine lv_iconst (v := 3) hx hb dX10_award_64 (by decide) ?_
            have E9 : s_X11_award F M p0 p1 = (3, (F, M)) := by unfold s_X11_award; rw [if_pos c1]; rw [if_pos c2]; rw [if_neg (fu_f (Int32.not_le.mpr c3))]; rw [if_pos ((hs_eq hI hJ c1.1 c2.1).mpr c4)]; rw [if_pos c5]
            exact W.iret (v := 3) hx hb hr (fun t ht hW => ⟨⟨3, Y, rfl, by rw [E9], by rw [E9]; exact ⟨⟨by rw [ht]; exact hP, va_K.moved hW.alike hK, nst_w hW hN⟩, hD⟩⟩, hS.F ht⟩) hS.2.2 dX10_award_65
        · replace c4 := bo_t c4
          refine lv_iconst (v := 2) hx hb dX10_award_50 (by decide) ?_
          have E9 : s_X11_award F M p0 p1 = (2, (F, M)) := by unfold s_X11_award; rw [if_pos c1]; rw [if_pos c2]; rw [if_neg (fu_f (Int32.not_le.mpr c3))]; rw [if_neg (show ¬ s_X11_hadSoon F M p0 p1 = 0 from fun q => (hs_eq hI hJ c1.1 c2.1).mp q c4)]
          exact W.iret (v := 2) hx hb hr (fun t ht hW => ⟨⟨2, Y, rfl, by rw [E9], by rw [E9]; exact ⟨⟨by rw [ht]; exact hP, va_K.moved hW.alike hK, nst_w hW hN⟩, hD⟩⟩, hS.F ht⟩) hS.2.2 dX10_award_51
      · refine lv_bipush (v := (-2)) hx hb dX10_award_28 (by decide) ?_
        have E9 : s_X11_award F M p0 p1 = ((-2), (F, M)) := by unfold s_X11_award; rw [if_pos c1]; rw [if_pos c2]; rw [if_pos (fu_t (iv_38 hI) (Int32.not_lt.mp c3))]
        exact W.iret (v := (-2)) hx hb hr (fun t ht hW => ⟨⟨(-2), Y, rfl, by rw [E9], by rw [E9]; exact ⟨⟨by rw [ht]; exact hP, va_K.moved hW.alike hK, nst_w hW hN⟩, hD⟩⟩, hS.F ht⟩) hS.2.2 dX10_award_30
    · replace c2 := bo_f c2
      refine lv_iconst (v := (-1)) hx hb dX10_award_17 (by decide) ?_
      have E9 : s_X11_award F M p0 p1 = ((-1), (F, M)) := by unfold s_X11_award; rw [if_pos c1]; rw [if_neg c2]
      exact W.iret (v := (-1)) hx hb hr (fun t ht hW => ⟨⟨(-1), Y, rfl, by rw [E9], by rw [E9]; exact ⟨⟨by rw [ht]; exact hP, va_K.moved hW.alike hK, nst_w hW hN⟩, hD⟩⟩, hS.F ht⟩) hS.2.2 dX10_award_18
