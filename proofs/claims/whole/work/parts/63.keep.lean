def kK (u : (Nat → Int32) × (Nat → Nat → Int32)) : Prop := iv u.1 u.2 ∧ jv u.1 u.2
theorem up_P {P : Int32 → Prop} {f : Nat → Int32} {k n : Nat} {v : Int32} (hv : P v) (h : ∀ j, j < n → P (f j)) : ∀ j, j < n → P (upd f k v j) := by
  intro j hj
  by_cases c : j = k
  · subst c; rw [up_at]; exact hv
  · rw [up_ne c]; exact h j hj
theorem kt_up {x K : Int32} (h : 0 ≤ x ∧ x ≤ K) (hne : ¬ x = K) (hK : K.toInt ≤ 1000) : (0 ≤ x + 1 ∧ x + 1 ≤ K) ∧ (x + 1).toNatClampNeg = x.toNatClampNeg + 1 := by
  have h1 := ib_le.mp h.1
  have h2 := ib_le.mp h.2
  have h3 : ¬ x.toInt = K.toInt := fun q => hne (ib_eq.mpr q)
  rw [ib_0] at h1
  have e := gb_p1 (x := x) (by omega)
  refine ⟨⟨ib_le.mpr (by rw [ib_0, e]; omega), ib_le.mpr (by rw [e]; omega)⟩, ?_⟩
  rw [Int32.toNatClampNeg, Int32.toNatClampNeg, e]
  omega
theorem lo_cg {F F2 : Nat → Int32} {M M2 : Nat → Nat → Int32} (h1 : M2 17 = M 17) (h2 : M2 18 = M 18) (h3 : M2 19 = M 19) (h4 : M2 20 = M 20) (p w k : Int32) : ∀ n, L_lastOf F2 M2 p w k n = L_lastOf F M p w k n := by
  intro n
  induction n with
  | zero => rfl
  | succ n ih => rw [L_lastOf, L_lastOf, ih, h1, h2, h3, h4]
theorem jr_k {F F2 : Nat → Int32} {M M2 : Nat → Nat → Int32} (hJ : jv F M) (e1 : F2 7 = F 7) (e2 : F2 16 = F 16) (h1 : M2 17 = M 17) (h2 : M2 18 = M 18) (h3 : M2 19 = M 19) (h4 : M2 20 = M 20) : ∀ i, i < (F2 7).toNatClampNeg → L_lastOf F2 M2 (nI i) 0 30000 (F2 16).toNatClampNeg = -9 → L_lastOf F2 M2 (nI i) 1 30000 (F2 16).toNatClampNeg = -9 := by
  intro i hi
  rw [lo_cg h1 h2 h3 h4, lo_cg h1 h2 h3 h4, e2]
  rw [e1] at hi
  exact jv_r hJ i hi
theorem lo_none {F : Nat → Int32} {M : Nat → Nat → Int32} {p w k : Int32} : ∀ n, (∀ j, j < n → ¬ M 17 j = p) → L_lastOf F M p w k n = -9 := by
  intro n
  induction n with
  | zero => intro _; rfl
  | succ n ih => intro h; rw [L_lastOf, if_neg (h n (Nat.lt_succ_self n))]; exact ih (fun j hj => h j (by omega))
theorem lo_suc {F : Nat → Int32} {M : Nat → Nat → Int32} {p w k : Int32} {n : Nat} (hk : M 20 n ≤ k) : L_lastOf F M p w k (n + 1) = if M 17 n = p ∧ M 18 n = w then M 19 n else L_lastOf F M p w k n := by
  rw [L_lastOf]
  by_cases c1 : M 17 n = p
  · rw [if_pos c1]
    by_cases c2 : M 18 n = w
    · rw [if_pos c2, if_neg (Int32.not_lt.mpr hk), if_pos ⟨c1, c2⟩]
    · rw [if_neg c2, if_neg (fun q => c2 q.2)]
  · rw [if_neg c1, if_neg (fun q => c1 q.1)]
theorem lo_up {F F2 : Nat → Int32} {M M2 : Nat → Nat → Int32} {p w k : Int32} {m : Nat} (h1 : ∀ j, j < m → M2 17 j = M 17 j) (h2 : ∀ j, j < m → M2 18 j = M 18 j) (h3 : ∀ j, j < m → M2 19 j = M 19 j) (h4 : ∀ j, j < m → M2 20 j = M 20 j) : ∀ n, n ≤ m → L_lastOf F2 M2 p w k n = L_lastOf F M p w k n := by
  intro n
  induction n with
  | zero => intro _; rfl
  | succ n ih => intro hn; rw [L_lastOf, L_lastOf, ih (by omega), h1 n (by omega), h2 n (by omega), h3 n (by omega), h4 n (by omega)]
theorem vp_mono {x : Int32} {n m : Nat} (h : vp_in x n) (hm : n ≤ m) : vp_in x m := by
  have := vp_in_iff.mp h
  exact vp_in_iff.mpr ⟨this.1, by omega⟩
theorem l_day {x p : Int32} (h : 0 ≤ x ∧ x ≤ 30000) (h0 : ¬ p < 0) (h1 : p ≤ 30000 - x) : (0 ≤ x + p ∧ x + p ≤ 30000) ∧ x ≤ x + p := by
  have a1 := ib_le.mp h.1
  have a2 := ib_le.mp h.2
  have a3 := ib_le.mp (Int32.not_lt.mp h0)
  have a4 := ib_le.mp h1
  have e3 : (30000 : Int32).toInt = 30000 := by decide
  rw [ib_0] at a1 a3
  rw [e3] at a2
  rw [ib_sub (by rw [e3]; omega) (by rw [e3]; omega), e3] at a4
  have e := ib_add (x := x) (y := p) (by omega) (by omega)
  exact ⟨⟨ib_le.mpr (by rw [ib_0, e]; omega), ib_le.mpr (by rw [e, e3]; omega)⟩, ib_le.mpr (by rw [e]; omega)⟩
theorem l_let {x a b : Int32} (hx : 0 ≤ x ∧ x ≤ 30000) (h : 0 ≤ a ∧ a ≤ b ∧ b ≤ 500) : 0 ≤ x + a ∧ x + a ≤ x + b ∧ x + b ≤ 30500 := by
  have a1 := ib_le.mp hx.1
  have a2 := ib_le.mp hx.2
  have a3 := ib_le.mp h.1
  have a4 := ib_le.mp h.2.1
  have a5 := ib_le.mp h.2.2
  rw [ib_0] at a1 a3
  rw [show (30000 : Int32).toInt = 30000 from by decide] at a2
  rw [show (500 : Int32).toInt = 500 from by decide] at a5
  have e1 := ib_add (x := x) (y := a) (by omega) (by omega)
  have e2 := ib_add (x := x) (y := b) (by omega) (by omega)
  exact ⟨ib_le.mpr (by rw [ib_0, e1]; omega), ib_le.mpr (by rw [e1, e2]; omega), ib_le.mpr (by rw [e2, show (30500 : Int32).toInt = 30500 from by decide]; omega)⟩
theorem l_cand {x : Int32} (h : 0 ≤ x ∧ x ≤ 16) : ((1 : Int32) <<< (x &&& 31)) - 1 ≤ 65535 := by
  have a : ∀ j, j < 17 → ((1 : Int32) <<< (nI j &&& 31)) - 1 ≤ 65535 := by decide +kernel
  obtain ⟨j, hj, e⟩ := nI_of2 (x := x) (M := 16) (n := 16) (by decide) (Int32.not_lt.mpr h.1) h.2
  subst e
  exact a j (by omega)
theorem iO (a b : Nat) : nI a ||| nI b = nI (a ||| b) := by
  apply Int32.toBitVec_inj.mp
  rw [Int32.toBitVec_or]
  exact BitVec.ofNat_or.symm
theorem l_or {x p K : Int32} (h : 0 ≤ x ∧ x ≤ 65535) (hp : 0 ≤ p ∧ p ≤ K - 1) (hK : 0 ≤ K ∧ K ≤ 16) : (0 : Int32) ≤ (x ||| (1 <<< (p &&& 31))) ∧ (x ||| (1 <<< (p &&& 31))) ≤ (65535 : Int32) := by
  have hs : ∀ j, j < 16 → ((1 : Int32) <<< (nI j &&& 31)) = nI (2 ^ j) := by decide +kernel
  have hv : vp_in p 16 := ib_cn hp hK (by decide)
  obtain ⟨j, hj, e⟩ := vp_in_of hv (by decide)
  obtain ⟨a, ha, e2⟩ := nI_of2 (x := x) (M := 65535) (n := 65535) (by decide) (Int32.not_lt.mpr h.1) h.2
  subst e
  subst e2
  rw [hs j hj, iO]
  have hb : 2 ^ j < 2 ^ 16 := Nat.pow_lt_pow_right (by decide) hj
  have ho : a ||| 2 ^ j < 2 ^ 16 := Nat.or_lt_two_pow (by omega) hb
  exact ⟨nI_pos' (by omega), by rw [show (65535 : Int32) = nI 65535 from by decide]; exact nI_le (by omega) (by decide)⟩
theorem nar_i (x : Int32) : vp_nar .byte (vp_nar .byte x) = vp_nar .byte x := by
  rw [vp_nar_byte, vp_nar_byte]
  simp
theorem i3 {F : Nat → Int32} {M : Nat → Nat → Int32} (hI : iv F M) : F 3 ≤ 30000 := (iv_3 hI).2
theorem le_tr {a b c : Int32} (h : a ≤ b) (h2 : b ≤ c) : a ≤ c := Int32.le_trans h h2

theorem k_meets {F : Nat → Int32} {M : Nat → Nat → Int32} (hI : iv F M) (hJ : jv F M) (p0 : Int32) : kK (s_X11_meets F M p0).2 := by
  unfold s_X11_meets
  have i_3 := iv_3 hI; have i_4 := iv_4 hI; have i_7 := iv_7 hI; have i_16 := iv_16 hI; have i_21 := iv_21 hI; have i_25 := iv_25 hI; have i_32 := iv_32 hI; have i_38 := iv_38 hI; have i_sz := iv_sz hI; have j_n := jv_n hJ; have j_p := jv_p hJ; have j_r := jv_r hJ; have j_s := jv_s hJ; have j_a := jv_a hJ; have j_c := jv_c hJ; have j_h := jv_h hJ; have j_b := jv_b hJ; have j_q := jv_q hJ
  refine ⟨?_, ?_⟩
  · show iv _ _; unfold iv; exact ⟨i_3, i_4, i_7, i_16, i_21, i_25, i_32, i_38, i_sz⟩
  · show jv _ _; unfold jv; exact ⟨j_n, j_p, jr_k hJ rfl rfl rfl rfl rfl rfl, j_s, j_a, j_c, j_h, j_b, j_q⟩

set_option maxHeartbeats 4000000 in
theorem k_later {F : Nat → Int32} {M : Nat → Nat → Int32} (p0 : Int32) (hI : iv F M) (hJ : jv F M) : kK (s_X11_later F M p0).2 := by
  unfold s_X11_later
  by_cases c0 : p0 < 0
  · rw [if_pos c0]
    exact ⟨hI, hJ⟩
  · rw [if_neg c0]
    by_cases c1 : p0 ≤ (30000 - (F 3))
    · rw [if_pos c1]
      have i_3 := iv_3 hI; have i_4 := iv_4 hI; have i_7 := iv_7 hI; have i_16 := iv_16 hI; have i_21 := iv_21 hI; have i_25 := iv_25 hI; have i_32 := iv_32 hI; have i_38 := iv_38 hI; have i_sz := iv_sz hI; have j_n := jv_n hJ; have j_p := jv_p hJ; have j_r := jv_r hJ; have j_s := jv_s hJ; have j_a := jv_a hJ; have j_c := jv_c hJ; have j_h := jv_h hJ; have j_b := jv_b hJ; have j_q := jv_q hJ
      refine ⟨?_, ?_⟩
      · show iv _ _; unfold iv; exact ⟨(l_day (iv_3 hI) c0 c1).1, i_4, i_7, i_16, i_21, i_25, i_32, i_38, i_sz⟩
      · show jv _ _; unfold jv; exact ⟨j_n, j_p, jr_k hJ rfl rfl rfl rfl rfl rfl, j_s, fun i hi => ⟨(jv_a hJ i hi).1, le_tr (jv_a hJ i hi).2.1 (l_day (iv_3 hI) c0 c1).2, (jv_a hJ i hi).2.2⟩, j_c, j_h, j_b, j_q⟩
    · rw [if_neg c1]
      exact ⟨hI, hJ⟩

set_option maxHeartbeats 4000000 in
theorem k_fellow {F : Nat → Int32} {M : Nat → Nat → Int32} (hI : iv F M) (hJ : jv F M) : kK (s_X11_fellow F M ).2 := by
  unfold s_X11_fellow
  by_cases c0 : (F 4) = 16
  · rw [if_pos c0]
    exact ⟨hI, hJ⟩
  · rw [if_neg c0]
    have i_3 := iv_3 hI; have i_4 := iv_4 hI; have i_7 := iv_7 hI; have i_16 := iv_16 hI; have i_21 := iv_21 hI; have i_25 := iv_25 hI; have i_32 := iv_32 hI; have i_38 := iv_38 hI; have i_sz := iv_sz hI; have j_n := jv_n hJ; have j_p := jv_p hJ; have j_r := jv_r hJ; have j_s := jv_s hJ; have j_a := jv_a hJ; have j_c := jv_c hJ; have j_h := jv_h hJ; have j_b := jv_b hJ; have j_q := jv_q hJ
    refine ⟨?_, ?_⟩
    · show iv _ _; unfold iv; exact ⟨i_3, (kt_up (iv_4 hI) c0 (by decide)).1, i_7, i_16, i_21, i_25, i_32, i_38, i_sz⟩
    · show jv _ _; unfold jv; exact ⟨j_n, j_p, jr_k hJ rfl rfl rfl rfl rfl rfl, j_s, j_a, j_c, j_h, j_b, j_q⟩

theorem q_post {F : Nat → Int32} {M : Nat → Nat → Int32} {k : Nat} {a b : Int32} (hJ : jv F M) (h : 0 ≤ a ∧ a ≤ b ∧ b ≤ 500) : ∀ p, p < 6 → (0 ≤ upd (M 5) k a p ∧ upd (M 5) k a p ≤ upd (M 6) k b p ∧ upd (M 6) k b p ≤ 500) := by
  intro p hp
  by_cases c : p = k
  · subst c; rw [up_at, up_at]; exact h
  · rw [up_ne c, up_ne c]; exact jv_q hJ p hp

set_option maxHeartbeats 4000000 in
theorem k_post {F : Nat → Int32} {M : Nat → Nat → Int32} (p0 : Int32) (p1 : Int32) (p2 : Int32) (hI : iv F M) (hJ : jv F M) : kK (s_X11_post F M p0 p1 p2).2 := by
  unfold s_X11_post
  by_cases c0 : 0 ≤ p0 ∧ p0 ≤ 5
  · rw [if_pos c0]
    by_cases c1 : 0 ≤ p1 ∧ p1 ≤ 500
    · rw [if_pos c1]
      by_cases c2 : p1 ≤ p2 ∧ p2 ≤ 500
      · rw [if_pos c2]
        have i_3 := iv_3 hI; have i_4 := iv_4 hI; have i_7 := iv_7 hI; have i_16 := iv_16 hI; have i_21 := iv_21 hI; have i_25 := iv_25 hI; have i_32 := iv_32 hI; have i_38 := iv_38 hI; have i_sz := iv_sz hI; have j_n := jv_n hJ; have j_p := jv_p hJ; have j_r := jv_r hJ; have j_s := jv_s hJ; have j_a := jv_a hJ; have j_c := jv_c hJ; have j_h := jv_h hJ; have j_b := jv_b hJ; have j_q := jv_q hJ
        refine ⟨?_, ?_⟩
        · show iv _ _; unfold iv; exact ⟨i_3, i_4, i_7, i_16, i_21, i_25, i_32, i_38, i_sz⟩
        · show jv _ _; unfold jv; exact ⟨j_n, j_p, jr_k hJ rfl rfl rfl rfl rfl rfl, j_s, j_a, j_c, j_h, j_b, q_post hJ ⟨c1.1, c2.1, c2.2⟩⟩
      · rw [if_neg c2]
        exact ⟨hI, hJ⟩
    · rw [if_neg c1]
      exact ⟨hI, hJ⟩
  · rw [if_neg c0]
    exact ⟨hI, hJ⟩

theorem p_paper {F : Nat → Int32} {M : Nat → Nat → Int32} {a9 a10 a11 a13 a14 a8 : Int32} (hI : iv F M) (hJ : jv F M) (c : ¬ F 7 = 24) (h8 : 0 ≤ a8 ∧ a8 ≤ 2) (h10 : 0 ≤ a10 ∧ a10 ≤ 65535) (h11 : 0 ≤ a11 ∧ a11 ≤ 30000) (h13 : a8 = 2 → 0 ≤ a13 ∧ a13 ≤ a14 ∧ a14 ≤ 30500) :
    ∀ i, i < (F 7 + 1).toNatClampNeg → ((0 ≤ upd (M 8) (F 7).toNatClampNeg a8 i ∧ upd (M 8) (F 7).toNatClampNeg a8 i ≤ 2) ∧ (¬ upd (M 15) (F 7).toNatClampNeg (-9) i = -9 → upd (M 8) (F 7).toNatClampNeg a8 i = 1) ∧ (0 ≤ upd (M 10) (F 7).toNatClampNeg a10 i ∧ upd (M 10) (F 7).toNatClampNeg a10 i ≤ 65535) ∧ (0 ≤ upd (M 11) (F 7).toNatClampNeg a11 i ∧ upd (M 11) (F 7).toNatClampNeg a11 i ≤ 30000) ∧ (upd (M 8) (F 7).toNatClampNeg a8 i = 2 → 0 ≤ upd (M 13) (F 7).toNatClampNeg a13 i ∧ upd (M 13) (F 7).toNatClampNeg a13 i ≤ upd (M 14) (F 7).toNatClampNeg a14 i ∧ upd (M 14) (F 7).toNatClampNeg a14 i ≤ 30500)) := by
  intro i hi
  rw [(kt_up (iv_7 hI) c (by decide)).2] at hi
  by_cases ci : i = (F 7).toNatClampNeg
  · subst ci
    rw [up_at, up_at, up_at, up_at, up_at, up_at]
    exact ⟨h8, fun q => absurd rfl q, h10, h11, h13⟩
  · rw [up_ne ci, up_ne ci, up_ne ci, up_ne ci, up_ne ci, up_ne ci]
    exact jv_p hJ i (by omega)
theorem n_paper {F : Nat → Int32} {M : Nat → Nat → Int32} (hI : iv F M) (hJ : jv F M) (c : ¬ F 7 = 24) : ∀ k, k < (F 16).toNatClampNeg → (M 20 k ≤ 30000 ∧ (0 ≤ M 19 k ∧ M 19 k ≤ 30000) ∧ (0 ≤ M 18 k ∧ M 18 k ≤ 2) ∧ vp_in (M 17 k) (F 7 + 1).toNatClampNeg) := by
  intro k hk
  have h := jv_n hJ k hk
  exact ⟨h.1, h.2.1, h.2.2.1, vp_mono h.2.2.2 (by rw [(kt_up (iv_7 hI) c (by decide)).2]; omega)⟩
theorem r_paper {F F2 : Nat → Int32} {M M2 : Nat → Nat → Int32} (hI : iv F M) (hJ : jv F M) (c : ¬ F 7 = 24) (e1 : F2 7 = F 7 + 1) (e2 : F2 16 = F 16) (h1 : M2 17 = M 17) (h2 : M2 18 = M 18) (h3 : M2 19 = M 19) (h4 : M2 20 = M 20) : ∀ i, i < (F2 7).toNatClampNeg → L_lastOf F2 M2 (nI i) 0 30000 (F2 16).toNatClampNeg = -9 → L_lastOf F2 M2 (nI i) 1 30000 (F2 16).toNatClampNeg = -9 := by
  intro i hi
  rw [e1, (kt_up (iv_7 hI) c (by decide)).2] at hi
  rw [lo_cg h1 h2 h3 h4, lo_cg h1 h2 h3 h4, e2]
  by_cases ci : i = (F 7).toNatClampNeg
  · subst ci
    intro _
    apply lo_none
    intro j hj q
    have h := (jv_n hJ j hj).2.2.2
    rw [q] at h
    have h5 := ib_cl h
    have h6 := lb_le (N := 24) (iv_7 hI) (by decide)
    rw [nI_clamp (by omega)] at h5
    omega
  · exact jv_r hJ i (by omega)

set_option maxHeartbeats 4000000 in
theorem k_paper {F : Nat → Int32} {M : Nat → Nat → Int32} (p0 : Int32) (p1 : Int32) (p2 : Int32) (p3 : Int32) (p4 : Int32) (hI : iv F M) (hJ : jv F M) : kK (s_X11_paper F M p0 p1 p2 p3 p4).2 := by
  unfold s_X11_paper
  by_cases c0 : 0 ≤ p0 ∧ p0 ≤ 2
  · rw [if_pos c0]
    by_cases c1 : 0 ≤ p1 ∧ p1 ≤ ((F 4) - 1)
    · rw [if_pos c1]
      by_cases c2 : 0 ≤ p2 ∧ p2 ≤ (65535)
      · rw [if_pos c2]
        by_cases c3 : p0 = 2
        · rw [if_pos c3]
          by_cases c4 : 0 ≤ p3 ∧ p3 ≤ (F 3)
          · rw [if_pos c4]
            by_cases c5 : 0 ≤ p4 ∧ p4 ≤ 5
            · rw [if_pos c5]
              by_cases c6 : (F 7) = 24
              · rw [if_pos c6]
                exact ⟨hI, hJ⟩
              · rw [if_neg c6]
                have i_3 := iv_3 hI; have i_4 := iv_4 hI; have i_7 := iv_7 hI; have i_16 := iv_16 hI; have i_21 := iv_21 hI; have i_25 := iv_25 hI; have i_32 := iv_32 hI; have i_38 := iv_38 hI; have i_sz := iv_sz hI; have j_n := jv_n hJ; have j_p := jv_p hJ; have j_r := jv_r hJ; have j_s := jv_s hJ; have j_a := jv_a hJ; have j_c := jv_c hJ; have j_h := jv_h hJ; have j_b := jv_b hJ; have j_q := jv_q hJ
                refine ⟨?_, ?_⟩
                · show iv _ _; unfold iv; exact ⟨i_3, i_4, (kt_up (iv_7 hI) c6 (by decide)).1, i_16, i_21, i_25, i_32, i_38, i_sz⟩
                · show jv _ _; unfold jv; exact ⟨n_paper hI hJ c6, p_paper (a9 := p1) hI hJ c6 c0 c2 (iv_3 hI) (fun _ => l_let ⟨c4.1, le_tr c4.2 (i3 hI)⟩ (jv_q hJ _ (ib_cl (N := 6) (ib_in (lo := 0) c5 (by decide))).2)), r_paper hI hJ c6 rfl rfl rfl rfl rfl rfl, j_s, j_a, j_c, j_h, j_b, j_q⟩
            · rw [if_neg c5]
              exact ⟨hI, hJ⟩
          · rw [if_neg c4]
            exact ⟨hI, hJ⟩
        · rw [if_neg c3]
          by_cases c7 : (F 7) = 24
          · rw [if_pos c7]
            exact ⟨hI, hJ⟩
          · rw [if_neg c7]
            have i_3 := iv_3 hI; have i_4 := iv_4 hI; have i_7 := iv_7 hI; have i_16 := iv_16 hI; have i_21 := iv_21 hI; have i_25 := iv_25 hI; have i_32 := iv_32 hI; have i_38 := iv_38 hI; have i_sz := iv_sz hI; have j_n := jv_n hJ; have j_p := jv_p hJ; have j_r := jv_r hJ; have j_s := jv_s hJ; have j_a := jv_a hJ; have j_c := jv_c hJ; have j_h := jv_h hJ; have j_b := jv_b hJ; have j_q := jv_q hJ
            refine ⟨?_, ?_⟩
            · show iv _ _; unfold iv; exact ⟨i_3, i_4, (kt_up (iv_7 hI) c7 (by decide)).1, i_16, i_21, i_25, i_32, i_38, i_sz⟩
            · show jv _ _; unfold jv; exact ⟨n_paper hI hJ c7, p_paper (a9 := p1) hI hJ c7 c0 c2 (iv_3 hI) (fun q => absurd q c3), r_paper hI hJ c7 rfl rfl rfl rfl rfl rfl, j_s, j_a, j_c, j_h, j_b, j_q⟩
      · rw [if_neg c2]
        exact ⟨hI, hJ⟩
    · rw [if_neg c1]
      exact ⟨hI, hJ⟩
  · rw [if_neg c0]
    exact ⟨hI, hJ⟩

theorem my_1 {F : Nat → Int32} {M : Nat → Nat → Int32} {p0 p2 : Int32} (h : ¬ s_X11_mayNote F M p0 1 p2 = 0) : ¬ s_X11_lastOf F M p0 0 30000 = -9 := by
  intro q
  apply h
  unfold s_X11_mayNote
  rw [if_neg (show ¬ (1 : Int32) = 0 by decide), if_neg (show ¬ (1 : Int32) = 2 by decide), if_pos (show (0 : Int32) < 1 by decide), if_pos (show s_X11_lastOf F M p0 (1 - 1) 30000 = -9 from q)]
theorem n_note {F : Nat → Int32} {M : Nat → Nat → Int32} {p0 p1 p2 : Int32} (hI : iv F M) (hJ : jv F M) (c : ¬ F 16 = 100) (h0 : 0 ≤ p0 ∧ p0 ≤ F 7 - 1) (h1 : 0 ≤ p1 ∧ p1 ≤ 2) (h2 : 0 ≤ p2 ∧ p2 ≤ F 3) : ∀ k, k < (F 16 + 1).toNatClampNeg → (upd (M 20) (F 16).toNatClampNeg (F 3) k ≤ 30000 ∧ (0 ≤ upd (M 19) (F 16).toNatClampNeg p2 k ∧ upd (M 19) (F 16).toNatClampNeg p2 k ≤ 30000) ∧ (0 ≤ upd (M 18) (F 16).toNatClampNeg p1 k ∧ upd (M 18) (F 16).toNatClampNeg p1 k ≤ 2) ∧ vp_in (upd (M 17) (F 16).toNatClampNeg p0 k) (F 7).toNatClampNeg) := by
  intro k hk
  rw [(kt_up (iv_16 hI) c (by decide)).2] at hk
  by_cases ci : k = (F 16).toNatClampNeg
  · subst ci
    rw [up_at, up_at, up_at, up_at]
    refine ⟨i3 hI, ⟨h2.1, le_tr h2.2 (i3 hI)⟩, h1, ?_⟩
    have h3 := ix_cn h0 (iv_7 hI).1
    have h4 := lb_c h0.1
    exact vp_in_iff.mpr ⟨by omega, by omega⟩
  · rw [up_ne ci, up_ne ci, up_ne ci, up_ne ci]
    exact jv_n hJ k (by omega)
theorem r_note {F F2 : Nat → Int32} {M M2 : Nat → Nat → Int32} {p0 p1 p2 : Int32} (hI : iv F M) (hJ : jv F M) (c : ¬ F 16 = 100) (h0 : 0 ≤ p0 ∧ p0 ≤ F 7 - 1) (h2 : 0 ≤ p2 ∧ p2 ≤ F 3) (hm : ¬ s_X11_mayNote F M p0 p1 p2 = 0) (e1 : F2 7 = F 7) (e2 : F2 16 = F 16 + 1) (h17 : M2 17 = upd (M 17) (F 16).toNatClampNeg p0) (h18 : M2 18 = upd (M 18) (F 16).toNatClampNeg p1) (h19 : M2 19 = upd (M 19) (F 16).toNatClampNeg p2) (h20 : M2 20 = upd (M 20) (F 16).toNatClampNeg (F 3)) : ∀ i, i < (F2 7).toNatClampNeg → L_lastOf F2 M2 (nI i) 0 30000 (F2 16).toNatClampNeg = -9 → L_lastOf F2 M2 (nI i) 1 30000 (F2 16).toNatClampNeg = -9 := by
  intro i hi
  rw [e1] at hi
  rw [e2, (kt_up (iv_16 hI) c (by decide)).2]
  have hk : M2 20 (F 16).toNatClampNeg ≤ 30000 := by rw [h20, up_at]; exact i3 hI
  rw [lo_suc hk, lo_suc hk]
  have eo : ∀ w, L_lastOf F2 M2 (nI i) w 30000 (F 16).toNatClampNeg = L_lastOf F M (nI i) w 30000 (F 16).toNatClampNeg := by
    intro w
    apply lo_up (m := (F 16).toNatClampNeg)
    · intro j hj; rw [h17, up_ne (by omega)]
    · intro j hj; rw [h18, up_ne (by omega)]
    · intro j hj; rw [h19, up_ne (by omega)]
    · intro j hj; rw [h20, up_ne (by omega)]
    · exact Nat.le_refl _
  rw [eo, eo, h17, h18, h19, up_at, up_at, up_at]
  by_cases c1 : p0 = nI i ∧ p1 = 0
  · rw [if_pos c1]
    intro q
    have := ib_le.mp h2.1
    rw [q, ib_0, show (-9 : Int32).toInt = -9 from by decide] at this
    omega
  · rw [if_neg c1]
    intro q
    by_cases c2 : p0 = nI i ∧ p1 = 1
    · rw [c2.2, c2.1] at hm
      exact absurd q (my_1 hm)
    · rw [if_neg c2]
      exact jv_r hJ i hi q

set_option maxHeartbeats 4000000 in
theorem k_note {F : Nat → Int32} {M : Nat → Nat → Int32} (p0 : Int32) (p1 : Int32) (p2 : Int32) (hI : iv F M) (hJ : jv F M) : kK (s_X11_note F M p0 p1 p2).2 := by
  unfold s_X11_note
  by_cases c0 : 0 ≤ p0 ∧ p0 ≤ ((F 7) - 1)
  · rw [if_pos c0]
    by_cases c1 : 0 ≤ p1 ∧ p1 ≤ 2
    · rw [if_pos c1]
      by_cases c2 : 0 ≤ p2 ∧ p2 ≤ (F 3)
      · rw [if_pos c2]
        by_cases c3 : (F 16) = 100
        · rw [if_pos c3]
          exact ⟨hI, hJ⟩
        · rw [if_neg c3]
          by_cases c4 : (s_X11_mayNote F M p0 p1 p2) = 0
          · rw [if_pos c4]
            exact ⟨hI, hJ⟩
          · rw [if_neg c4]
            have i_3 := iv_3 hI; have i_4 := iv_4 hI; have i_7 := iv_7 hI; have i_16 := iv_16 hI; have i_21 := iv_21 hI; have i_25 := iv_25 hI; have i_32 := iv_32 hI; have i_38 := iv_38 hI; have i_sz := iv_sz hI; have j_n := jv_n hJ; have j_p := jv_p hJ; have j_r := jv_r hJ; have j_s := jv_s hJ; have j_a := jv_a hJ; have j_c := jv_c hJ; have j_h := jv_h hJ; have j_b := jv_b hJ; have j_q := jv_q hJ
            refine ⟨?_, ?_⟩
            · show iv _ _; unfold iv; exact ⟨i_3, i_4, i_7, (kt_up (iv_16 hI) c3 (by decide)).1, i_21, i_25, i_32, i_38, i_sz⟩
            · show jv _ _; unfold jv; exact ⟨n_note hI hJ c3 c0 c1 c2, j_p, r_note hI hJ c3 c0 c2 c4 rfl rfl rfl rfl rfl rfl, j_s, j_a, j_c, j_h, j_b, j_q⟩
      · rw [if_neg c2]
        exact ⟨hI, hJ⟩
    · rw [if_neg c1]
      exact ⟨hI, hJ⟩
  · rw [if_neg c0]
    exact ⟨hI, hJ⟩

theorem p_open {F : Nat → Int32} {M : Nat → Nat → Int32} {k : Nat} {v : Int32} (hJ : jv F M) (h8 : M 8 k = 1) : ∀ i, i < (F 7).toNatClampNeg → ((0 ≤ M 8 i ∧ M 8 i ≤ 2) ∧ (¬ upd (M 15) k v i = -9 → M 8 i = 1) ∧ (0 ≤ M 10 i ∧ M 10 i ≤ 65535) ∧ (0 ≤ M 11 i ∧ M 11 i ≤ 30000) ∧ (M 8 i = 2 → 0 ≤ M 13 i ∧ M 13 i ≤ M 14 i ∧ M 14 i ≤ 30500)) := by
  intro i hi
  have h := jv_p hJ i hi
  refine ⟨h.1, ?_, h.2.2⟩
  by_cases c : i = k
  · subst c; intro _; exact h8
  · rw [up_ne c]; exact h.2.1

set_option maxHeartbeats 4000000 in
theorem k_open {F : Nat → Int32} {M : Nat → Nat → Int32} (p0 : Int32) (p1 : Int32) (p2 : Int32) (hI : iv F M) (hJ : jv F M) : kK (s_X11_open F M p0 p1 p2).2 := by
  unfold s_X11_open
  by_cases c0 : 0 ≤ p0 ∧ p0 ≤ ((F 7) - 1)
  · rw [if_pos c0]
    by_cases c1 : 0 ≤ p1 ∧ p1 ≤ ((F 4) - 1)
    · rw [if_pos c1]
      by_cases c2 : 0 ≤ p2 ∧ p2 ≤ ((F 4) - 1)
      · rw [if_pos c2]
        by_cases c3 : p1 = p2
        · rw [if_pos c3]
          exact ⟨hI, hJ⟩
        · rw [if_neg c3]
          by_cases c4 : p1 = ((M 9) p0.toNatClampNeg)
          · rw [if_pos c4]
            exact ⟨hI, hJ⟩
          · rw [if_neg c4]
            by_cases c5 : p2 = ((M 9) p0.toNatClampNeg)
            · rw [if_pos c5]
              exact ⟨hI, hJ⟩
            · rw [if_neg c5]
              by_cases c6 : ((M 8) p0.toNatClampNeg) = 1
              · rw [if_pos c6]
                by_cases c7 : ((M 15) p0.toNatClampNeg) = (-9)
                · rw [if_pos c7]
                  have i_3 := iv_3 hI; have i_4 := iv_4 hI; have i_7 := iv_7 hI; have i_16 := iv_16 hI; have i_21 := iv_21 hI; have i_25 := iv_25 hI; have i_32 := iv_32 hI; have i_38 := iv_38 hI; have i_sz := iv_sz hI; have j_n := jv_n hJ; have j_p := jv_p hJ; have j_r := jv_r hJ; have j_s := jv_s hJ; have j_a := jv_a hJ; have j_c := jv_c hJ; have j_h := jv_h hJ; have j_b := jv_b hJ; have j_q := jv_q hJ
                  refine ⟨?_, ?_⟩
                  · show iv _ _; unfold iv; exact ⟨i_3, i_4, i_7, i_16, i_21, i_25, i_32, i_38, i_sz⟩
                  · show jv _ _; unfold jv; exact ⟨j_n, p_open hJ c6, jr_k hJ rfl rfl rfl rfl rfl rfl, j_s, j_a, j_c, j_h, j_b, j_q⟩
                · rw [if_neg c7]
                  exact ⟨hI, hJ⟩
              · rw [if_neg c6]
                exact k_meets hI hJ 3
      · rw [if_neg c2]
        exact ⟨hI, hJ⟩
    · rw [if_neg c1]
      exact ⟨hI, hJ⟩
  · rw [if_neg c0]
    exact ⟨hI, hJ⟩

set_option maxHeartbeats 4000000 in
theorem k_mark {F : Nat → Int32} {M : Nat → Nat → Int32} (p0 : Int32) (p1 : Int32) (hI : iv F M) (hJ : jv F M) : kK (s_X11_mark F M p0 p1).2 := by
  unfold s_X11_mark
  by_cases c0 : 0 ≤ p0 ∧ p0 ≤ ((F 7) - 1)
  · rw [if_pos c0]
    by_cases c1 : 0 ≤ p1 ∧ p1 ≤ 2
    · rw [if_pos c1]
      by_cases c2 : p1 = 0
      · rw [if_pos c2]
        exact ⟨hI, hJ⟩
      · rw [if_neg c2]
        by_cases c3 : ((M 8) p0.toNatClampNeg) = p1
        · rw [if_pos c3]
          by_cases c4 : p1 = 1
          · rw [if_pos c4]
            exact ⟨hI, hJ⟩
          · rw [if_neg c4]
            exact ⟨hI, hJ⟩
        · rw [if_neg c3]
          exact k_meets hI hJ 3
    · rw [if_neg c1]
      exact ⟨hI, hJ⟩
  · rw [if_neg c0]
    exact ⟨hI, hJ⟩

theorem s_stat {F : Nat → Int32} {M : Nat → Nat → Int32} {v : Int32} (hI : iv F M) (hJ : jv F M) (c : ¬ F 21 = 12) (h : 0 ≤ v ∧ v ≤ 2) : ∀ i, i < (F 21 + 1).toNatClampNeg → (0 ≤ upd (M 23) (F 21).toNatClampNeg v i ∧ upd (M 23) (F 21).toNatClampNeg v i ≤ 2) := by
  intro i hi
  rw [(kt_up (iv_21 hI) c (by decide)).2] at hi
  by_cases ci : i = (F 21).toNatClampNeg
  · subst ci; rw [up_at]; exact h
  · rw [up_ne ci]; exact jv_s hJ i (by omega)

set_option maxHeartbeats 4000000 in
theorem k_statute {F : Nat → Int32} {M : Nat → Nat → Int32} (p0 : Int32) (p1 : Int32) (p2 : Int32) (hI : iv F M) (hJ : jv F M) : kK (s_X11_statute F M p0 p1 p2).2 := by
  unfold s_X11_statute
  by_cases c0 : 0 ≤ p0 ∧ p0 ≤ 30000
  · rw [if_pos c0]
    by_cases c1 : 0 ≤ p1 ∧ p1 ≤ 2
    · rw [if_pos c1]
      by_cases c2 : (F 21) = 12
      · rw [if_pos c2]
        exact ⟨hI, hJ⟩
      · rw [if_neg c2]
        have i_3 := iv_3 hI; have i_4 := iv_4 hI; have i_7 := iv_7 hI; have i_16 := iv_16 hI; have i_21 := iv_21 hI; have i_25 := iv_25 hI; have i_32 := iv_32 hI; have i_38 := iv_38 hI; have i_sz := iv_sz hI; have j_n := jv_n hJ; have j_p := jv_p hJ; have j_r := jv_r hJ; have j_s := jv_s hJ; have j_a := jv_a hJ; have j_c := jv_c hJ; have j_h := jv_h hJ; have j_b := jv_b hJ; have j_q := jv_q hJ
        refine ⟨?_, ?_⟩
        · show iv _ _; unfold iv; exact ⟨i_3, i_4, i_7, i_16, (kt_up (iv_21 hI) c2 (by decide)).1, i_25, i_32, i_38, i_sz⟩
        · show jv _ _; unfold jv; exact ⟨j_n, j_p, jr_k hJ rfl rfl rfl rfl rfl rfl, s_stat hI hJ c2 c1, j_a, j_c, j_h, j_b, j_q⟩
    · rw [if_neg c1]
      exact ⟨hI, hJ⟩
  · rw [if_neg c0]
    exact ⟨hI, hJ⟩

set_option maxHeartbeats 4000000 in
theorem k_first {F : Nat → Int32} {M : Nat → Nat → Int32} (p0 : Int32) (p1 : Int32) (p2 : Int32) (hI : iv F M) (hJ : jv F M) : kK (s_X11_first F M p0 p1 p2).2 := by
  unfold s_X11_first
  by_cases c0 : 0 ≤ p0 ∧ p0 ≤ 15
  · rw [if_pos c0]
    by_cases c1 : 0 ≤ p1 ∧ p1 ≤ 30000
    · rw [if_pos c1]
      by_cases c2 : 0 ≤ p2 ∧ p2 ≤ 30000
      · rw [if_pos c2]
        by_cases c3 : (s_X11_inForce22 F M (F 21) p1) = (-9)
        · rw [if_pos c3]
          exact ⟨hI, hJ⟩
        · rw [if_neg c3]
          have i_3 := iv_3 hI; have i_4 := iv_4 hI; have i_7 := iv_7 hI; have i_16 := iv_16 hI; have i_21 := iv_21 hI; have i_25 := iv_25 hI; have i_32 := iv_32 hI; have i_38 := iv_38 hI; have i_sz := iv_sz hI; have j_n := jv_n hJ; have j_p := jv_p hJ; have j_r := jv_r hJ; have j_s := jv_s hJ; have j_a := jv_a hJ; have j_c := jv_c hJ; have j_h := jv_h hJ; have j_b := jv_b hJ; have j_q := jv_q hJ
          refine ⟨?_, ?_⟩
          · show iv _ _; unfold iv; exact ⟨i_3, i_4, i_7, i_16, i_21, i_25, i_32, i_38, i_sz⟩
          · show jv _ _; unfold jv; exact ⟨j_n, j_p, jr_k hJ rfl rfl rfl rfl rfl rfl, j_s, j_a, j_c, j_h, j_b, j_q⟩
      · rw [if_neg c2]
        exact ⟨hI, hJ⟩
    · rw [if_neg c1]
      exact ⟨hI, hJ⟩
  · rw [if_neg c0]
    exact ⟨hI, hJ⟩

set_option maxHeartbeats 4000000 in
theorem k_mean {F : Nat → Int32} {M : Nat → Nat → Int32} (hI : iv F M) (hJ : jv F M) : kK (s_X11_mean F M ).2 := by
  unfold s_X11_mean
  by_cases c0 : ((L_mean F M (F 7).toNatClampNeg).2) = 0
  · rw [if_pos c0]
    exact k_meets hI hJ 4
  · rw [if_neg c0]
    exact ⟨hI, hJ⟩

set_option maxHeartbeats 4000000 in
theorem k_byelaw {F : Nat → Int32} {M : Nat → Nat → Int32} (p0 : Int32) (p1 : Int32) (p2 : Int32) (p3 : Int32) (p4 : Int32) (p5 : Int32) (hI : iv F M) (hJ : jv F M) : kK (s_X11_byelaw F M p0 p1 p2 p3 p4 p5).2 := by
  unfold s_X11_byelaw
  by_cases c0 : 0 ≤ p0 ∧ p0 ≤ 30000
  · rw [if_pos c0]
    by_cases c1 : 0 ≤ p1 ∧ p1 ≤ 500
    · rw [if_pos c1]
      by_cases c2 : 0 ≤ p2 ∧ p2 ≤ 16
      · rw [if_pos c2]
        by_cases c3 : 0 ≤ p3 ∧ p3 ≤ 100
        · rw [if_pos c3]
          by_cases c4 : 1 ≤ p5 ∧ p5 ≤ 100
          · rw [if_pos c4]
            by_cases c5 : 0 ≤ p4 ∧ p4 ≤ p5
            · rw [if_pos c5]
              by_cases c6 : (F 25) = 12
              · rw [if_pos c6]
                exact ⟨hI, hJ⟩
              · rw [if_neg c6]
                have i_3 := iv_3 hI; have i_4 := iv_4 hI; have i_7 := iv_7 hI; have i_16 := iv_16 hI; have i_21 := iv_21 hI; have i_25 := iv_25 hI; have i_32 := iv_32 hI; have i_38 := iv_38 hI; have i_sz := iv_sz hI; have j_n := jv_n hJ; have j_p := jv_p hJ; have j_r := jv_r hJ; have j_s := jv_s hJ; have j_a := jv_a hJ; have j_c := jv_c hJ; have j_h := jv_h hJ; have j_b := jv_b hJ; have j_q := jv_q hJ
                refine ⟨?_, ?_⟩
                · show iv _ _; unfold iv; exact ⟨i_3, i_4, i_7, i_16, i_21, (kt_up (iv_25 hI) c6 (by decide)).1, i_32, i_38, i_sz⟩
                · show jv _ _; unfold jv; exact ⟨j_n, j_p, jr_k hJ rfl rfl rfl rfl rfl rfl, j_s, j_a, j_c, j_h, j_b, j_q⟩
            · rw [if_neg c5]
              exact ⟨hI, hJ⟩
          · rw [if_neg c4]
            exact ⟨hI, hJ⟩
        · rw [if_neg c3]
          exact ⟨hI, hJ⟩
      · rw [if_neg c2]
        exact ⟨hI, hJ⟩
    · rw [if_neg c1]
      exact ⟨hI, hJ⟩
  · rw [if_neg c0]
    exact ⟨hI, hJ⟩

theorem c_cand {F : Nat → Int32} {M : Nat → Nat → Int32} {v : Int32} (hI : iv F M) (hJ : jv F M) (c : ¬ F 32 = 20) (h : 0 ≤ v ∧ v ≤ 65535) : ∀ i, i < (F 32 + 1).toNatClampNeg → (0 ≤ upd (M 34) (F 32).toNatClampNeg v i ∧ upd (M 34) (F 32).toNatClampNeg v i ≤ 65535) := by
  intro i hi
  rw [(kt_up (iv_32 hI) c (by decide)).2] at hi
  by_cases ci : i = (F 32).toNatClampNeg
  · subst ci; rw [up_at]; exact h
  · rw [up_ne ci]; exact jv_c hJ i (by omega)

set_option maxHeartbeats 4000000 in
theorem k_candidate {F : Nat → Int32} {M : Nat → Nat → Int32} (p0 : Int32) (hI : iv F M) (hJ : jv F M) : kK (s_X11_candidate F M p0).2 := by
  unfold s_X11_candidate
  by_cases c0 : 0 ≤ p0 ∧ p0 ≤ ((1 <<< ((F 4) &&& 31)) - 1)
  · rw [if_pos c0]
    by_cases c1 : (F 32) = 20
    · rw [if_pos c1]
      exact ⟨hI, hJ⟩
    · rw [if_neg c1]
      have i_3 := iv_3 hI; have i_4 := iv_4 hI; have i_7 := iv_7 hI; have i_16 := iv_16 hI; have i_21 := iv_21 hI; have i_25 := iv_25 hI; have i_32 := iv_32 hI; have i_38 := iv_38 hI; have i_sz := iv_sz hI; have j_n := jv_n hJ; have j_p := jv_p hJ; have j_r := jv_r hJ; have j_s := jv_s hJ; have j_a := jv_a hJ; have j_c := jv_c hJ; have j_h := jv_h hJ; have j_b := jv_b hJ; have j_q := jv_q hJ
      refine ⟨?_, ?_⟩
      · show iv _ _; unfold iv; exact ⟨i_3, i_4, i_7, i_16, i_21, i_25, (kt_up (iv_32 hI) c1 (by decide)).1, i_38, i_sz⟩
      · show jv _ _; unfold jv; exact ⟨j_n, j_p, jr_k hJ rfl rfl rfl rfl rfl rfl, j_s, j_a, c_cand hI hJ c1 ⟨c0.1, le_tr c0.2 (l_cand (iv_4 hI))⟩, j_h, j_b, j_q⟩
  · rw [if_neg c0]
    exact ⟨hI, hJ⟩

set_option maxHeartbeats 4000000 in
theorem k_need {F : Nat → Int32} {M : Nat → Nat → Int32} (p0 : Int32) (p1 : Int32) (hI : iv F M) (hJ : jv F M) : kK (s_X11_need F M p0 p1).2 := by
  unfold s_X11_need
  by_cases c0 : 0 ≤ p1 ∧ p1 ≤ ((F 32) - 1)
  · rw [if_pos c0]
    by_cases c1 : p0 = 0
    · rw [if_pos c1]
      exact ⟨hI, hJ⟩
    · rw [if_neg c1]
      by_cases c2 : ((M 35) p1.toNatClampNeg) = 0
      · rw [if_pos c2]
        exact ⟨hI, hJ⟩
      · rw [if_neg c2]
        exact k_meets hI hJ 1
  · rw [if_neg c0]
    exact ⟨hI, hJ⟩

theorem need_ok {F : Nat → Int32} {M : Nat → Nat → Int32} {a p : Int32} (h : 0 ≤ (s_X11_need F M a p).1) : ¬ a = 0 ∧ (s_X11_need F M a p).2 = (F, M) ∧ (0 ≤ p ∧ p ≤ F 32 - 1) := by
  unfold s_X11_need at h ⊢
  by_cases c1 : 0 ≤ p ∧ p ≤ F 32 - 1
  · rw [if_pos c1] at h ⊢
    by_cases c2 : a = 0
    · rw [if_pos c2] at h; exact absurd (show (0 : Int32) ≤ -1 from h) (by decide)
    · rw [if_neg c2] at h ⊢
      by_cases c3 : M 35 p.toNatClampNeg = 0
      · rw [if_pos c3]; exact ⟨c2, rfl, c1⟩
      · rw [if_neg c3] at h; exact absurd (show (0 : Int32) ≤ -3 from h) (by decide)
  · rw [if_neg c1] at h; exact absurd (show (0 : Int32) ≤ -1 from h) (by decide)
set_option maxHeartbeats 4000000 in
theorem k_propose {F : Nat → Int32} {M : Nat → Nat → Int32} (p0 : Int32) (p1 : Int32) (hI : iv F M) (hJ : jv F M) : kK (s_X11_propose F M p0 p1).2 := by
  unfold s_X11_propose
  by_cases c0 : 0 ≤ ((s_X11_need F M (if 0 ≤ p1 ∧ p1 ≤ ((F 4) - 1) then (1 : Int32) else 0) p0).1)
  · rw [if_pos c0]
    have h := need_ok c0
    have hp := bo_t h.1
    show kK ((s_X11_need F M (if 0 ≤ p1 ∧ p1 ≤ ((F 4) - 1) then (1 : Int32) else 0) p0).2.1, va_up ((s_X11_need F M (if 0 ≤ p1 ∧ p1 ≤ ((F 4) - 1) then (1 : Int32) else 0) p0).2.2) 34 (upd (((s_X11_need F M (if 0 ≤ p1 ∧ p1 ≤ ((F 4) - 1) then (1 : Int32) else 0) p0).2.2) 34) p0.toNatClampNeg (((((s_X11_need F M (if 0 ≤ p1 ∧ p1 ≤ ((F 4) - 1) then (1 : Int32) else 0) p0).2.2) 34) p0.toNatClampNeg) ||| (1 <<< (p1 &&& 31)))))
    rw [h.2.1]
    have i_3 := iv_3 hI; have i_4 := iv_4 hI; have i_7 := iv_7 hI; have i_16 := iv_16 hI; have i_21 := iv_21 hI; have i_25 := iv_25 hI; have i_32 := iv_32 hI; have i_38 := iv_38 hI; have i_sz := iv_sz hI; have j_n := jv_n hJ; have j_p := jv_p hJ; have j_r := jv_r hJ; have j_s := jv_s hJ; have j_a := jv_a hJ; have j_c := jv_c hJ; have j_h := jv_h hJ; have j_b := jv_b hJ; have j_q := jv_q hJ
    refine ⟨?_, ?_⟩
    · show iv _ _; unfold iv; exact ⟨i_3, i_4, i_7, i_16, i_21, i_25, i_32, i_38, i_sz⟩
    · show jv _ _; unfold jv; exact ⟨j_n, j_p, jr_k hJ rfl rfl rfl rfl rfl rfl, j_s, j_a, up_P (P := fun x => 0 ≤ x ∧ x ≤ 65535) (l_or (j_c _ (ix_cn h.2.2 (iv_32 hI).1)) hp (iv_4 hI)) j_c, j_h, j_b, j_q⟩
  · rw [if_neg c0]; exact k_need _ _ hI hJ
theorem k_withdraw {F : Nat → Int32} {M : Nat → Nat → Int32} (p0 : Int32) (hI : iv F M) (hJ : jv F M) : kK (s_X11_withdraw F M p0).2 := by
  unfold s_X11_withdraw
  by_cases c0 : 0 ≤ ((s_X11_need F M 1 p0).1)
  · rw [if_pos c0]
    have h := need_ok c0
    show kK ((s_X11_need F M 1 p0).2.1, va_up ((s_X11_need F M 1 p0).2.2) 35 (upd (((s_X11_need F M 1 p0).2.2) 35) p0.toNatClampNeg (vp_nar .boolean 1)))
    rw [h.2.1]
    have i_3 := iv_3 hI; have i_4 := iv_4 hI; have i_7 := iv_7 hI; have i_16 := iv_16 hI; have i_21 := iv_21 hI; have i_25 := iv_25 hI; have i_32 := iv_32 hI; have i_38 := iv_38 hI; have i_sz := iv_sz hI; have j_n := jv_n hJ; have j_p := jv_p hJ; have j_r := jv_r hJ; have j_s := jv_s hJ; have j_a := jv_a hJ; have j_c := jv_c hJ; have j_h := jv_h hJ; have j_b := jv_b hJ; have j_q := jv_q hJ
    refine ⟨?_, ?_⟩
    · show iv _ _; unfold iv; exact ⟨i_3, i_4, i_7, i_16, i_21, i_25, i_32, i_38, i_sz⟩
    · show jv _ _; unfold jv; exact ⟨j_n, j_p, jr_k hJ rfl rfl rfl rfl rfl rfl, j_s, j_a, j_c, j_h, j_b, j_q⟩
  · rw [if_neg c0]; exact k_need _ _ hI hJ

set_option maxHeartbeats 4000000 in
theorem k_ballot {F : Nat → Int32} {M : Nat → Nat → Int32} (p0 : Int32) (p1 : Int32) (p2 : Int32) (hI : iv F M) (hJ : jv F M) : kK (s_X11_ballot F M p0 p1 p2).2 := by
  unfold s_X11_ballot
  by_cases c0 : 0 ≤ p0 ∧ p0 ≤ ((F 32) - 1)
  · rw [if_pos c0]
    by_cases c1 : 0 ≤ p1 ∧ p1 ≤ 1000
    · rw [if_pos c1]
      by_cases c2 : 0 ≤ p2 ∧ p2 ≤ 1000
      · rw [if_pos c2]
        by_cases c3 : (s_X11_inForce26 F M (F 25) (F 3)) = (-9)
        · rw [if_pos c3]
          exact ⟨hI, hJ⟩
        · rw [if_neg c3]
          by_cases c4 : (F 4) = 16
          · rw [if_pos c4]
            exact ⟨hI, hJ⟩
          · rw [if_neg c4]
            by_cases c5 : ((M 35) p0.toNatClampNeg) = 0
            · rw [if_pos c5]
              by_cases c6 : (s_X11_bars F M p0 (s_X11_inForce26 F M (F 25) (F 3)) p1 p2) = 1
              · rw [if_pos c6]
                have i_3 := iv_3 hI; have i_4 := iv_4 hI; have i_7 := iv_7 hI; have i_16 := iv_16 hI; have i_21 := iv_21 hI; have i_25 := iv_25 hI; have i_32 := iv_32 hI; have i_38 := iv_38 hI; have i_sz := iv_sz hI; have j_n := jv_n hJ; have j_p := jv_p hJ; have j_r := jv_r hJ; have j_s := jv_s hJ; have j_a := jv_a hJ; have j_c := jv_c hJ; have j_h := jv_h hJ; have j_b := jv_b hJ; have j_q := jv_q hJ
                refine ⟨?_, ?_⟩
                · show iv _ _; unfold iv; exact ⟨i_3, (kt_up (iv_4 hI) c4 (by decide)).1, i_7, i_16, i_21, i_25, i_32, i_38, i_sz⟩
                · show jv _ _; unfold jv; exact ⟨j_n, j_p, jr_k hJ rfl rfl rfl rfl rfl rfl, j_s, j_a, j_c, j_h, j_b, j_q⟩
              · rw [if_neg c6]
                exact ⟨hI, hJ⟩
            · rw [if_neg c5]
              exact k_meets hI hJ 1
      · rw [if_neg c2]
        exact ⟨hI, hJ⟩
    · rw [if_neg c1]
      exact ⟨hI, hJ⟩
  · rw [if_neg c0]
    exact ⟨hI, hJ⟩

set_option maxHeartbeats 4000000 in
theorem k_medal {F : Nat → Int32} {M : Nat → Nat → Int32} (p0 : Int32) (p1 : Int32) (p2 : Int32) (hI : iv F M) (hJ : jv F M) : kK (s_X11_medal F M p0 p1 p2).2 := by
  unfold s_X11_medal
  by_cases c0 : 0 ≤ p0 ∧ p0 ≤ 3
  · rw [if_pos c0]
    by_cases c1 : 0 ≤ p1 ∧ p1 ≤ 30000
    · rw [if_pos c1]
      by_cases c2 : 0 ≤ p2 ∧ p2 ≤ 30000
      · rw [if_pos c2]
        have i_3 := iv_3 hI; have i_4 := iv_4 hI; have i_7 := iv_7 hI; have i_16 := iv_16 hI; have i_21 := iv_21 hI; have i_25 := iv_25 hI; have i_32 := iv_32 hI; have i_38 := iv_38 hI; have i_sz := iv_sz hI; have j_n := jv_n hJ; have j_p := jv_p hJ; have j_r := jv_r hJ; have j_s := jv_s hJ; have j_a := jv_a hJ; have j_c := jv_c hJ; have j_h := jv_h hJ; have j_b := jv_b hJ; have j_q := jv_q hJ
        refine ⟨?_, ?_⟩
        · show iv _ _; unfold iv; exact ⟨i_3, i_4, i_7, i_16, i_21, i_25, i_32, i_38, i_sz⟩
        · show jv _ _; unfold jv; exact ⟨j_n, j_p, jr_k hJ rfl rfl rfl rfl rfl rfl, j_s, j_a, j_c, j_h, j_b, j_q⟩
      · rw [if_neg c2]
        exact ⟨hI, hJ⟩
    · rw [if_neg c1]
      exact ⟨hI, hJ⟩
  · rw [if_neg c0]
    exact ⟨hI, hJ⟩

theorem a_award {F : Nat → Int32} {M : Nat → Nat → Int32} (hI : iv F M) (hJ : jv F M) (c : ¬ F 38 = 60) : ∀ i, i < (F 38 + 1).toNatClampNeg → (0 ≤ upd (M 41) (F 38).toNatClampNeg (F 3) i ∧ upd (M 41) (F 38).toNatClampNeg (F 3) i ≤ F 3 ∧ ∀ j, j ≤ i → upd (M 41) (F 38).toNatClampNeg (F 3) j ≤ upd (M 41) (F 38).toNatClampNeg (F 3) i) := by
  intro i hi
  rw [(kt_up (iv_38 hI) c (by decide)).2] at hi
  by_cases ci : i = (F 38).toNatClampNeg
  · subst ci
    rw [up_at]
    refine ⟨(iv_3 hI).1, Int32.le_refl _, fun j hj => ?_⟩
    by_cases cj : j = (F 38).toNatClampNeg
    · subst cj; rw [up_at]; exact Int32.le_refl _
    · rw [up_ne cj]; exact (jv_a hJ j (by omega)).2.1
  · have h := jv_a hJ i (by omega)
    rw [up_ne ci]
    exact ⟨h.1, h.2.1, fun j hj => by rw [up_ne (by omega)]; exact h.2.2 j hj⟩

set_option maxHeartbeats 4000000 in
theorem k_award {F : Nat → Int32} {M : Nat → Nat → Int32} (p0 : Int32) (p1 : Int32) (hI : iv F M) (hJ : jv F M) : kK (s_X11_award F M p0 p1).2 := by
  unfold s_X11_award
  by_cases c0 : 0 ≤ p0 ∧ p0 ≤ 3
  · rw [if_pos c0]
    by_cases c1 : 0 ≤ p1 ∧ p1 ≤ ((F 4) - 1)
    · rw [if_pos c1]
      by_cases c2 : (F 38) = 60
      · rw [if_pos c2]
        exact ⟨hI, hJ⟩
      · rw [if_neg c2]
        by_cases c3 : (s_X11_hadSoon F M p0 p1) = 0
        · rw [if_pos c3]
          by_cases c4 : (s_X11_hasPrinted F M p0 p1) = 0
          · rw [if_pos c4]
            exact ⟨hI, hJ⟩
          · rw [if_neg c4]
            have i_3 := iv_3 hI; have i_4 := iv_4 hI; have i_7 := iv_7 hI; have i_16 := iv_16 hI; have i_21 := iv_21 hI; have i_25 := iv_25 hI; have i_32 := iv_32 hI; have i_38 := iv_38 hI; have i_sz := iv_sz hI; have j_n := jv_n hJ; have j_p := jv_p hJ; have j_r := jv_r hJ; have j_s := jv_s hJ; have j_a := jv_a hJ; have j_c := jv_c hJ; have j_h := jv_h hJ; have j_b := jv_b hJ; have j_q := jv_q hJ
            refine ⟨?_, ?_⟩
            · show iv _ _; unfold iv; exact ⟨i_3, i_4, i_7, i_16, i_21, i_25, i_32, (kt_up (iv_38 hI) c2 (by decide)).1, i_sz⟩
            · show jv _ _; unfold jv; exact ⟨j_n, j_p, jr_k hJ rfl rfl rfl rfl rfl rfl, j_s, a_award hI hJ c2, j_c, j_h, j_b, j_q⟩
        · rw [if_neg c3]
          exact ⟨hI, hJ⟩
    · rw [if_neg c1]
      exact ⟨hI, hJ⟩
  · rw [if_neg c0]
    exact ⟨hI, hJ⟩

set_option maxHeartbeats 4000000 in
theorem k_stock {F : Nat → Int32} {M : Nat → Nat → Int32} (p0 : Int32) (p1 : Int32) (p2 : Int32) (hI : iv F M) (hJ : jv F M) : kK (s_X11_stock F M p0 p1 p2).2 := by
  unfold s_X11_stock
  by_cases c0 : (0 ≤ p0 ∧ p0 ≤ 5) ∧ (0 ≤ p1 ∧ p1 ≤ 11)
  · rw [if_pos c0]
    by_cases c1 : 0 ≤ p2 ∧ p2 ≤ 9
    · rw [if_pos c1]
      have i_3 := iv_3 hI; have i_4 := iv_4 hI; have i_7 := iv_7 hI; have i_16 := iv_16 hI; have i_21 := iv_21 hI; have i_25 := iv_25 hI; have i_32 := iv_32 hI; have i_38 := iv_38 hI; have i_sz := iv_sz hI; have j_n := jv_n hJ; have j_p := jv_p hJ; have j_r := jv_r hJ; have j_s := jv_s hJ; have j_a := jv_a hJ; have j_c := jv_c hJ; have j_h := jv_h hJ; have j_b := jv_b hJ; have j_q := jv_q hJ
      refine ⟨?_, ?_⟩
      · show iv _ _; unfold iv; exact ⟨i_3, i_4, i_7, i_16, i_21, i_25, i_32, i_38, i_sz⟩
      · show jv _ _; unfold jv; exact ⟨j_n, j_p, jr_k hJ rfl rfl rfl rfl rfl rfl, j_s, j_a, j_c, up_P (P := fun x => 0 ≤ x ∧ x ≤ 9) c1 j_h, j_b, j_q⟩
    · rw [if_neg c1]
      exact ⟨hI, hJ⟩
  · rw [if_neg c0]
    exact ⟨hI, hJ⟩

theorem b_sheet {F : Nat → Int32} {M : Nat → Nat → Int32} {p0 p1 : Int32} (hJ : jv F M) : ∀ n k, k < 48 → vp_nar .byte (L_sheet F M p0 p1 n k) = L_sheet F M p0 p1 n k := by
  intro n
  induction n with
  | zero => exact jv_b hJ
  | succ n ih => rw [L_sheet]; exact up_P (P := fun x => vp_nar .byte x = x) (nar_i 0) ih
theorem b_copy {F : Nat → Int32} {M : Nat → Nat → Int32} {p0 p1 p2 p3 p4 : Int32} (hJ : jv F M) : ∀ n k, k < 48 → vp_nar .byte (L_copy2 F M p0 p1 p2 p3 p4 n k) = L_copy2 F M p0 p1 p2 p3 p4 n k := by
  intro n
  induction n with
  | zero => exact jv_b hJ
  | succ n ih => rw [L_copy2]; exact up_P (P := fun x => vp_nar .byte x = x) (nar_i _) ih
theorem h_fill {F : Nat → Int32} {M : Nat → Nat → Int32} {p0 p1 : Int32} (hJ : jv F M) : ∀ n k, k < 72 → (0 ≤ (L_fill F M p0 p1 n).2 k ∧ (L_fill F M p0 p1 n).2 k ≤ 9) := by
  intro n
  induction n with
  | zero => exact jv_h hJ
  | succ n ih =>
    rw [L_fill]
    by_cases c1 : ((M 43) p1.toNatClampNeg) ≤ (nI n)
    · rw [if_pos c1]; exact ih
    · rw [if_neg c1]
      by_cases c2 : 0 ≤ ((M 44) (((12 * p1) + (nI n)).toNatClampNeg))
      · rw [if_pos c2]
        by_cases c3 : ((M 44) (((12 * p1) + (nI n)).toNatClampNeg)) ≤ 9
        · rw [if_pos c3]; exact up_P (P := fun x => 0 ≤ x ∧ x ≤ 9) ⟨c2, c3⟩ ih
        · rw [if_neg c3]; exact up_P (P := fun x => 0 ≤ x ∧ x ≤ 9) (by decide) ih
      · rw [if_neg c2]; exact up_P (P := fun x => 0 ≤ x ∧ x ≤ 9) (by decide) ih
theorem z_up {F : Nat → Int32} {M : Nat → Nat → Int32} {k : Nat} {v : Int32} (hI : iv F M) (h : -1 ≤ v ∧ v ≤ 12) : ∀ j, j < 4 → -1 ≤ upd (M 43) k v j ∧ upd (M 43) k v j ≤ 12 := up_P (P := fun x => -1 ≤ x ∧ x ≤ 12) h (iv_sz hI)

set_option maxHeartbeats 4000000 in
theorem k_sheet {F : Nat → Int32} {M : Nat → Nat → Int32} (p0 : Int32) (p1 : Int32) (hI : iv F M) (hJ : jv F M) : kK (s_X11_sheet F M p0 p1).2 := by
  unfold s_X11_sheet
  by_cases c0 : 0 ≤ p0 ∧ p0 ≤ 3
  · rw [if_pos c0]
    by_cases c1 : p1 ≤ 12
    · rw [if_pos c1]
      by_cases c2 : 0 ≤ p1
      · rw [if_pos c2]
        have i_3 := iv_3 hI; have i_4 := iv_4 hI; have i_7 := iv_7 hI; have i_16 := iv_16 hI; have i_21 := iv_21 hI; have i_25 := iv_25 hI; have i_32 := iv_32 hI; have i_38 := iv_38 hI; have i_sz := iv_sz hI; have j_n := jv_n hJ; have j_p := jv_p hJ; have j_r := jv_r hJ; have j_s := jv_s hJ; have j_a := jv_a hJ; have j_c := jv_c hJ; have j_h := jv_h hJ; have j_b := jv_b hJ; have j_q := jv_q hJ
        refine ⟨?_, ?_⟩
        · show iv _ _; unfold iv; exact ⟨i_3, i_4, i_7, i_16, i_21, i_25, i_32, i_38, z_up hI ⟨le_tr (by decide) c2, c1⟩⟩
        · show jv _ _; unfold jv; exact ⟨j_n, j_p, jr_k hJ rfl rfl rfl rfl rfl rfl, j_s, j_a, j_c, j_h, b_sheet hJ 12, j_q⟩
      · rw [if_neg c2]
        exact k_meets hI hJ 5
    · rw [if_neg c1]
      exact ⟨hI, hJ⟩
  · rw [if_neg c0]
    exact ⟨hI, hJ⟩

set_option maxHeartbeats 4000000 in
theorem k_lay {F : Nat → Int32} {M : Nat → Nat → Int32} (p0 : Int32) (p1 : Int32) (p2 : Int32) (hI : iv F M) (hJ : jv F M) : kK (s_X11_lay F M p0 p1 p2).2 := by
  unfold s_X11_lay
  by_cases c0 : 0 ≤ p0 ∧ p0 ≤ 3
  · rw [if_pos c0]
    by_cases c1 : 0 ≤ ((M 43) p0.toNatClampNeg)
    · rw [if_pos c1]
      by_cases c2 : 0 ≤ p1 ∧ p1 ≤ (((M 43) p0.toNatClampNeg) - 1)
      · rw [if_pos c2]
        have i_3 := iv_3 hI; have i_4 := iv_4 hI; have i_7 := iv_7 hI; have i_16 := iv_16 hI; have i_21 := iv_21 hI; have i_25 := iv_25 hI; have i_32 := iv_32 hI; have i_38 := iv_38 hI; have i_sz := iv_sz hI; have j_n := jv_n hJ; have j_p := jv_p hJ; have j_r := jv_r hJ; have j_s := jv_s hJ; have j_a := jv_a hJ; have j_c := jv_c hJ; have j_h := jv_h hJ; have j_b := jv_b hJ; have j_q := jv_q hJ
        refine ⟨?_, ?_⟩
        · show iv _ _; unfold iv; exact ⟨i_3, i_4, i_7, i_16, i_21, i_25, i_32, i_38, i_sz⟩
        · show jv _ _; unfold jv; exact ⟨j_n, j_p, jr_k hJ rfl rfl rfl rfl rfl rfl, j_s, j_a, j_c, j_h, up_P (P := fun x => vp_nar .byte x = x) (nar_i _) j_b, j_q⟩
      · rw [if_neg c2]
        exact k_meets hI hJ 2
    · rw [if_neg c1]
      exact k_meets hI hJ 1
  · rw [if_neg c0]
    exact ⟨hI, hJ⟩

set_option maxHeartbeats 4000000 in
theorem k_tear {F : Nat → Int32} {M : Nat → Nat → Int32} (p0 : Int32) (hI : iv F M) (hJ : jv F M) : kK (s_X11_tear F M p0).2 := by
  unfold s_X11_tear
  by_cases c0 : 0 ≤ p0 ∧ p0 ≤ 3
  · rw [if_pos c0]
    by_cases c1 : 0 ≤ ((M 43) p0.toNatClampNeg)
    · rw [if_pos c1]
      have i_3 := iv_3 hI; have i_4 := iv_4 hI; have i_7 := iv_7 hI; have i_16 := iv_16 hI; have i_21 := iv_21 hI; have i_25 := iv_25 hI; have i_32 := iv_32 hI; have i_38 := iv_38 hI; have i_sz := iv_sz hI; have j_n := jv_n hJ; have j_p := jv_p hJ; have j_r := jv_r hJ; have j_s := jv_s hJ; have j_a := jv_a hJ; have j_c := jv_c hJ; have j_h := jv_h hJ; have j_b := jv_b hJ; have j_q := jv_q hJ
      refine ⟨?_, ?_⟩
      · show iv _ _; unfold iv; exact ⟨i_3, i_4, i_7, i_16, i_21, i_25, i_32, i_38, z_up hI (by decide)⟩
      · show jv _ _; unfold jv; exact ⟨j_n, j_p, jr_k hJ rfl rfl rfl rfl rfl rfl, j_s, j_a, j_c, j_h, j_b, j_q⟩
    · rw [if_neg c1]
      exact k_meets hI hJ 1
  · rw [if_neg c0]
    exact ⟨hI, hJ⟩

set_option maxHeartbeats 4000000 in
theorem k_copy {F : Nat → Int32} {M : Nat → Nat → Int32} (p0 : Int32) (p1 : Int32) (p2 : Int32) (p3 : Int32) (p4 : Int32) (hI : iv F M) (hJ : jv F M) : kK (s_X11_copy F M p0 p1 p2 p3 p4).2 := by
  unfold s_X11_copy
  by_cases c0 : 0 ≤ p0 ∧ p0 ≤ 3
  · rw [if_pos c0]
    by_cases c1 : 0 ≤ p2 ∧ p2 ≤ 3
    · rw [if_pos c1]
      by_cases c2 : ((M 43) p0.toNatClampNeg) < 0
      · rw [if_pos c2]
        exact k_meets hI hJ 1
      · rw [if_neg c2]
        by_cases c3 : 0 ≤ ((M 43) p2.toNatClampNeg)
        · rw [if_pos c3]
          by_cases c4 : p1 < 0
          · rw [if_pos c4]
            exact k_meets hI hJ 2
          · rw [if_neg c4]
            by_cases c5 : p3 < 0
            · rw [if_pos c5]
              exact k_meets hI hJ 2
            · rw [if_neg c5]
              by_cases c6 : p4 < 0
              · rw [if_pos c6]
                exact k_meets hI hJ 2
              · rw [if_neg c6]
                by_cases c7 : 0 < (lg_cmp (p1.toInt64 + p4.toInt64) (((M 43) p0.toNatClampNeg).toInt64))
                · rw [if_pos c7]
                  exact k_meets hI hJ 2
                · rw [if_neg c7]
                  by_cases c8 : (lg_cmp (p3.toInt64 + p4.toInt64) (((M 43) p2.toNatClampNeg).toInt64)) ≤ 0
                  · rw [if_pos c8]
                    have i_3 := iv_3 hI; have i_4 := iv_4 hI; have i_7 := iv_7 hI; have i_16 := iv_16 hI; have i_21 := iv_21 hI; have i_25 := iv_25 hI; have i_32 := iv_32 hI; have i_38 := iv_38 hI; have i_sz := iv_sz hI; have j_n := jv_n hJ; have j_p := jv_p hJ; have j_r := jv_r hJ; have j_s := jv_s hJ; have j_a := jv_a hJ; have j_c := jv_c hJ; have j_h := jv_h hJ; have j_b := jv_b hJ; have j_q := jv_q hJ
                    refine ⟨?_, ?_⟩
                    · show iv _ _; unfold iv; exact ⟨i_3, i_4, i_7, i_16, i_21, i_25, i_32, i_38, i_sz⟩
                    · show jv _ _; unfold jv; exact ⟨j_n, j_p, jr_k hJ rfl rfl rfl rfl rfl rfl, j_s, j_a, j_c, j_h, b_copy hJ _, j_q⟩
                  · rw [if_neg c8]
                    exact k_meets hI hJ 2
        · rw [if_neg c3]
          exact k_meets hI hJ 1
    · rw [if_neg c1]
      exact ⟨hI, hJ⟩
  · rw [if_neg c0]
    exact ⟨hI, hJ⟩

set_option maxHeartbeats 4000000 in
theorem k_fill {F : Nat → Int32} {M : Nat → Nat → Int32} (p0 : Int32) (p1 : Int32) (hI : iv F M) (hJ : jv F M) : kK (s_X11_fill F M p0 p1).2 := by
  unfold s_X11_fill
  by_cases c0 : 0 ≤ p0 ∧ p0 ≤ 5
  · rw [if_pos c0]
    by_cases c1 : 0 ≤ p1 ∧ p1 ≤ 3
    · rw [if_pos c1]
      by_cases c2 : 0 ≤ ((M 43) p1.toNatClampNeg)
      · rw [if_pos c2]
        have i_3 := iv_3 hI; have i_4 := iv_4 hI; have i_7 := iv_7 hI; have i_16 := iv_16 hI; have i_21 := iv_21 hI; have i_25 := iv_25 hI; have i_32 := iv_32 hI; have i_38 := iv_38 hI; have i_sz := iv_sz hI; have j_n := jv_n hJ; have j_p := jv_p hJ; have j_r := jv_r hJ; have j_s := jv_s hJ; have j_a := jv_a hJ; have j_c := jv_c hJ; have j_h := jv_h hJ; have j_b := jv_b hJ; have j_q := jv_q hJ
        refine ⟨?_, ?_⟩
        · show iv _ _; unfold iv; exact ⟨i_3, i_4, i_7, i_16, i_21, i_25, i_32, i_38, i_sz⟩
        · show jv _ _; unfold jv; exact ⟨j_n, j_p, jr_k hJ rfl rfl rfl rfl rfl rfl, j_s, j_a, j_c, h_fill hJ 12, j_b, j_q⟩
      · rw [if_neg c2]
        exact k_meets hI hJ 1
    · rw [if_neg c1]
      exact ⟨hI, hJ⟩
  · rw [if_neg c0]
    exact ⟨hI, hJ⟩

set_option maxHeartbeats 4000000 in
theorem k_swaps {F : Nat → Int32} {M : Nat → Nat → Int32} (p0 : Int32) (hI : iv F M) (hJ : jv F M) : kK (s_X11_swaps F M p0).2 := by
  unfold s_X11_swaps
  by_cases c0 : p0 < 0
  · rw [if_pos c0]
    exact ⟨hI, hJ⟩
  · rw [if_neg c0]
    by_cases c1 : 62 < p0
    · rw [if_pos c1]
      exact ⟨hI, hJ⟩
    · rw [if_neg c1]
      by_cases c2 : (p0 - p0 / 2 * 2) = 0
      · rw [if_pos c2]
        have i_3 := iv_3 hI; have i_4 := iv_4 hI; have i_7 := iv_7 hI; have i_16 := iv_16 hI; have i_21 := iv_21 hI; have i_25 := iv_25 hI; have i_32 := iv_32 hI; have i_38 := iv_38 hI; have i_sz := iv_sz hI; have j_n := jv_n hJ; have j_p := jv_p hJ; have j_r := jv_r hJ; have j_s := jv_s hJ; have j_a := jv_a hJ; have j_c := jv_c hJ; have j_h := jv_h hJ; have j_b := jv_b hJ; have j_q := jv_q hJ
        refine ⟨?_, ?_⟩
        · show iv _ _; unfold iv; exact ⟨i_3, i_4, i_7, i_16, i_21, i_25, i_32, i_38, i_sz⟩
        · show jv _ _; unfold jv; exact ⟨j_n, j_p, jr_k hJ rfl rfl rfl rfl rfl rfl, j_s, j_a, j_c, j_h, j_b, j_q⟩
      · rw [if_neg c2]
        exact ⟨hI, hJ⟩

set_option maxHeartbeats 4000000 in
theorem k_whole {F : Nat → Int32} {M : Nat → Nat → Int32} (hI : iv F M) (hJ : jv F M) : kK (s_X11_whole F M ).2 := by
  unfold s_X11_whole
  by_cases c0 : ((L_whole F M n32).1) = (-9)
  · rw [if_pos c0]
    have i_3 := iv_3 hI; have i_4 := iv_4 hI; have i_7 := iv_7 hI; have i_16 := iv_16 hI; have i_21 := iv_21 hI; have i_25 := iv_25 hI; have i_32 := iv_32 hI; have i_38 := iv_38 hI; have i_sz := iv_sz hI; have j_n := jv_n hJ; have j_p := jv_p hJ; have j_r := jv_r hJ; have j_s := jv_s hJ; have j_a := jv_a hJ; have j_c := jv_c hJ; have j_h := jv_h hJ; have j_b := jv_b hJ; have j_q := jv_q hJ
    refine ⟨?_, ?_⟩
    · show iv _ _; unfold iv; exact ⟨i_3, i_4, i_7, i_16, i_21, i_25, i_32, i_38, i_sz⟩
    · show jv _ _; unfold jv; exact ⟨j_n, j_p, jr_k hJ rfl rfl rfl rfl rfl rfl, j_s, j_a, j_c, j_h, j_b, j_q⟩
  · rw [if_neg c0]
    have i_3 := iv_3 hI; have i_4 := iv_4 hI; have i_7 := iv_7 hI; have i_16 := iv_16 hI; have i_21 := iv_21 hI; have i_25 := iv_25 hI; have i_32 := iv_32 hI; have i_38 := iv_38 hI; have i_sz := iv_sz hI; have j_n := jv_n hJ; have j_p := jv_p hJ; have j_r := jv_r hJ; have j_s := jv_s hJ; have j_a := jv_a hJ; have j_c := jv_c hJ; have j_h := jv_h hJ; have j_b := jv_b hJ; have j_q := jv_q hJ
    refine ⟨?_, ?_⟩
    · show iv _ _; unfold iv; exact ⟨i_3, i_4, i_7, i_16, i_21, i_25, i_32, i_38, i_sz⟩
    · show jv _ _; unfold jv; exact ⟨j_n, j_p, jr_k hJ rfl rfl rfl rfl rfl rfl, j_s, j_a, j_c, j_h, j_b, j_q⟩

theorem k_0 : kK (zF, M_0) := by
  refine ⟨?_, ?_⟩
  · show iv _ _; unfold iv; exact ⟨by decide, by decide, by decide, by decide, by decide, by decide, by decide, by decide, by decide⟩
  · show jv _ _; unfold jv
    have z : ∀ {P : Prop} {i : Nat}, i < (0 : Int32).toNatClampNeg → P := fun h => absurd h (Nat.not_lt_zero _)
    exact ⟨fun k h => z h, fun k h => z h, fun k h => z h, fun k h => z h, fun k h => z h, fun k h => z h, by decide, by decide, by decide⟩
