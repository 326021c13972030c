def goC (f : Nat → Int32) : Nat → Nat
  | 0 => 0
  | n + 1 => goC f n + (if f n = -9 then 0 else 1)
theorem goC_le (f : Nat → Int32) : ∀ n, goC f n ≤ n := by
  intro n
  induction n with
  | zero => exact Nat.le_refl 0
  | succ n ih => rw [goC]; split <;> omega
theorem goC_lt {f : Nat → Int32} {k : Nat} (hk : f k = -9) : ∀ n, k < n → goC f n < n := by
  intro n
  induction n with
  | zero => intro h; omega
  | succ n ih =>
    intro h
    rw [goC]
    by_cases c : k = n
    · subst c; rw [if_pos hk]; have := goC_le f k; omega
    · have := ih (by omega); split <;> omega
theorem goC_up {f : Nat → Int32} {k : Nat} {v : Int32} (hk : f k = -9) (hv : ¬ v = -9) : ∀ n, goC (upd f k v) n = goC f n + (if k < n then 1 else 0) := by
  intro n
  induction n with
  | zero => rfl
  | succ n ih =>
    rw [goC, goC, ih]
    by_cases c : n = k
    · subst c
      rw [if_neg (show ¬ upd f n v n = -9 from by unfold upd; rw [if_pos rfl]; exact hv), if_pos hk, if_neg (Nat.lt_irrefl n), if_pos (Nat.lt_succ_self n)]
    · have e : upd f k v n = f n := by unfold upd; rw [if_neg c]
      rw [e]
      by_cases c2 : k < n
      · rw [if_pos c2, if_pos (show k < n + 1 by omega)]; omega
      · rw [if_neg c2, if_neg (show ¬ k < n + 1 by omega)]; omega
theorem up_at (f : Nat → Int32) (k : Nat) (v : Int32) : upd f k v k = v := by unfold upd; rw [if_pos rfl]
theorem up_ne {f : Nat → Int32} {k j : Nat} {v : Int32} (h : ¬ j = k) : upd f k v j = f j := by unfold upd; rw [if_neg h]
theorem nI9 {n : Nat} (h : n < 31) : ¬ nI n = -9 := by
  intro q
  have q2 := ib_eq.mp q
  rw [nI_toInt (by omega), show (-9 : Int32).toInt = -9 from by decide] at q2
  omega
theorem x31 {u k : Nat} (hu : u < 31) (hk : k < 31) : (31 * nI u + nI k).toNatClampNeg = 31 * u + k :=
  nx_cl (show 31 * nI u + nI k = nI (31 * u + k) from by show nI 31 * nI u + nI k = _; simp only [nI_add, pk_mul]) (by omega)
abbrev goI (R : Nat → Int32) (m : Nat) (fr rw : Nat → Int32) (ρ : Nat → Nat) : Prop := (∀ k, k < 31 → ¬ fr k = -9 → ρ k < m ∧ (k = 0 ∨ ∃ u, u < 31 ∧ fr k = nI u ∧ ¬ fr u = -9 ∧ ρ u < ρ k ∧ ¬ R (31 * u + k) ≤ 0)) ∧ fr 0 = 0 ∧ (∀ j, j < m → ∃ u, u < 31 ∧ rw j = nI u ∧ ¬ fr u = -9) ∧ (∀ k, k < 31 → ¬ fr k = -9 → ∃ j, j < m ∧ rw j = nI k) ∧ goC fr 31 = m
theorem goI.a {R : Nat → Int32} {m : Nat} {fr rw : Nat → Int32} {ρ : Nat → Nat} (h : goI R m fr rw ρ) : ∀ k, k < 31 → ¬ fr k = -9 → ρ k < m ∧ (k = 0 ∨ ∃ u, u < 31 ∧ fr k = nI u ∧ ¬ fr u = -9 ∧ ρ u < ρ k ∧ ¬ R (31 * u + k) ≤ 0) := h.1
theorem goI.b {R : Nat → Int32} {m : Nat} {fr rw : Nat → Int32} {ρ : Nat → Nat} (h : goI R m fr rw ρ) : fr 0 = 0 := h.2.1
theorem goI.c {R : Nat → Int32} {m : Nat} {fr rw : Nat → Int32} {ρ : Nat → Nat} (h : goI R m fr rw ρ) : ∀ j, j < m → ∃ u, u < 31 ∧ rw j = nI u ∧ ¬ fr u = -9 := h.2.2.1
theorem goI.d {R : Nat → Int32} {m : Nat} {fr rw : Nat → Int32} {ρ : Nat → Nat} (h : goI R m fr rw ρ) : ∀ k, k < 31 → ¬ fr k = -9 → ∃ j, j < m ∧ rw j = nI k := h.2.2.2.1
theorem goI.e {R : Nat → Int32} {m : Nat} {fr rw : Nat → Int32} {ρ : Nat → Nat} (h : goI R m fr rw ρ) : goC fr 31 = m := h.2.2.2.2
theorem goI.lt {R : Nat → Int32} {m : Nat} {fr rw : Nat → Int32} {ρ : Nat → Nat} (h : goI R m fr rw ρ) {k : Nat} (hk : k < 31) (h9 : fr k = -9) : m < 31 := by
  have := goC_lt h9 31 hk
  have := h.e
  omega
theorem goI.step {R : Nat → Int32} {m : Nat} {fr rw : Nat → Int32} {ρ : Nat → Nat} (h : goI R m fr rw ρ) {u k : Nat} (hu : u < 31) (hu9 : ¬ fr u = -9) (hk : k < 31) (h9 : fr k = -9) (hR : ¬ R (31 * u + k) ≤ 0) :
    goI R (m + 1) (upd fr k (nI u)) (upd rw m (nI k)) (fun x => if x = k then m else ρ x) := by
  refine ⟨?_, ?_, ?_, ?_, ?_⟩
  · skip
    intro x hx hx9
    by_cases c : x = k
    · subst c
      refine ⟨by show (if x = x then m else ρ x) < m + 1; rw [if_pos rfl]; exact Nat.lt_succ_self m, Or.inr ⟨u, hu, up_at _ _ _, ?_, ?_, hR⟩⟩
      · by_cases c2 : u = x
        · subst c2; exact absurd h9 hu9
        · rw [up_ne c2]; exact hu9
      · show (if u = x then m else ρ u) < (if x = x then m else ρ x)
        have c2 : ¬ u = x := fun q => by subst q; exact hu9 h9
        rw [if_neg c2, if_pos rfl]
        exact (h.a u hu hu9).1
    · rw [up_ne c] at hx9
      obtain ⟨h1, h2⟩ := h.a x hx hx9
      refine ⟨by show (if x = k then m else ρ x) < m + 1; rw [if_neg c]; omega, ?_⟩
      rcases h2 with h2 | ⟨v, hv, e1, e2, e3, e4⟩
      · exact Or.inl h2
      · have c2 : ¬ v = k := fun q => by subst q; exact e2 h9
        refine Or.inr ⟨v, hv, by rw [up_ne c]; exact e1, by rw [up_ne c2]; exact e2, ?_, e4⟩
        show (if v = k then m else ρ v) < (if x = k then m else ρ x)
        rw [if_neg c2, if_neg c]
        exact e3
  · skip
    have c : ¬ 0 = k := fun q => by subst q; rw [h.b] at h9; exact absurd h9 (by decide)
    rw [up_ne c]; exact h.b
  · skip
    intro j hj
    by_cases c : j = m
    · subst c
      exact ⟨k, hk, up_at _ _ _, by rw [up_at]; exact nI9 hu⟩
    · obtain ⟨v, e1, e2, e3⟩ := h.c j (by omega)
      refine ⟨v, e1, by rw [up_ne c]; exact e2, ?_⟩
      have c2 : ¬ v = k := fun q => by subst q; exact e3 h9
      rw [up_ne c2]; exact e3
  · skip
    intro x hx hx9
    by_cases c : x = k
    · subst c; exact ⟨m, Nat.lt_succ_self m, up_at _ _ _⟩
    · rw [up_ne c] at hx9
      obtain ⟨j, e1, e2⟩ := h.d x hx hx9
      exact ⟨j, by omega, by rw [up_ne (by omega)]; exact e2⟩
  · skip
    rw [goC_up h9 (nI9 hu), if_pos hk, h.e]
/-- the rows behind the head have no way out -/
def goK (R : Nat → Int32) (i : Nat) (fr rw : Nat → Int32) : Prop := ∀ j, j < i → ∀ u, u < 31 → rw j = nI u → ∀ k, k < 31 → ¬ fr k = -9 ∨ R (31 * u + k) ≤ 0
theorem goK.step {R : Nat → Int32} {i m u k : Nat} {fr rw : Nat → Int32} (h : goK R i fr rw) (hi : i ≤ m) (hu : u < 31) : goK R i (upd fr k (nI u)) (upd rw m (nI k)) := by
  intro j hj v hv e x hx
  rw [up_ne (by omega)] at e
  by_cases c : x = k
  · subst c; exact Or.inl (by rw [up_at]; exact nI9 hu)
  · rw [up_ne c]; exact h j hj v hv e x hx
theorem go3_ok {F : Nat → Int32} {M : Nat → Nat → Int32} {i m0 : Nat} {z0 : Int32} {z1 z2 : Nat → Int32} {ρ0 : Nat → Nat} (e0 : z0 = nI m0) (h0 : goI (M 46) m0 z1 z2 ρ0) (hi : i < m0) (hK : goK (M 46) i z1 z2) :
    ∀ n, n ≤ 31 → ∃ m ρ u, (L_go3 F M i z0 z1 z2 n).1 = nI m ∧ goI (M 46) m (L_go3 F M i z0 z1 z2 n).2.1 (L_go3 F M i z0 z1 z2 n).2.2 ρ ∧ i < m ∧ goK (M 46) i (L_go3 F M i z0 z1 z2 n).2.1 (L_go3 F M i z0 z1 z2 n).2.2 ∧ u < 31 ∧ (L_go3 F M i z0 z1 z2 n).2.2 i = nI u ∧ ¬ (L_go3 F M i z0 z1 z2 n).2.1 u = -9 ∧ ∀ k, k < n → ¬ (L_go3 F M i z0 z1 z2 n).2.1 k = -9 ∨ M 46 (31 * u + k) ≤ 0 := by
  intro n
  induction n with
  | zero =>
    intro _
    obtain ⟨u, e1, e2, e3⟩ := h0.c i hi
    exact ⟨m0, ρ0, u, e0, h0, hi, hK, e1, e2, e3, fun k hk => absurd hk (Nat.not_lt_zero k)⟩
  | succ n ih =>
    intro hn
    obtain ⟨m, ρ, u, f1, f2, f3, f4, f5, f6, f7, f8⟩ := ih (by omega)
    rw [L_go3]
    generalize L_go3 F M i z0 z1 z2 n = G at f1 f2 f3 f4 f5 f6 f7 f8 ⊢
    obtain ⟨g0, g1, g2⟩ := G
    simp only at f1 f2 f3 f4 f5 f6 f7 f8 ⊢
    rw [f6, x31 f5 (show n < 31 by omega)]
    by_cases c1 : g1 n = -9
    · rw [if_pos c1]
      by_cases c2 : M 46 (31 * u + n) ≤ 0
      · rw [if_pos c2]
        refine ⟨m, ρ, u, f1, f2, f3, f4, f5, f6, f7, ?_⟩
        intro k hk
        by_cases c : k = n
        · subst c; exact Or.inr c2
        · exact f8 k (by omega)
      · rw [if_neg c2]
        have hm := f2.lt (show n < 31 by omega) c1
        have hun : ¬ u = n := fun q => by subst q; exact f7 c1
        simp only
        rw [f1, nI_clamp (by omega)]
        refine ⟨m + 1, _, u, nI_1 m, f2.step f5 f7 (show n < 31 by omega) c1 c2, by omega, f4.step (by omega) f5, f5, by rw [up_ne (by omega)]; exact f6, by rw [up_ne hun]; exact f7, ?_⟩
        intro k hk
        by_cases c : k = n
        · subst c; exact Or.inl (by rw [up_at]; exact nI9 f5)
        · rw [up_ne c]; exact f8 k (by omega)
    · rw [if_neg c1]
      refine ⟨m, ρ, u, f1, f2, f3, f4, f5, f6, f7, ?_⟩
      intro k hk
      by_cases c : k = n
      · subst c; exact Or.inl c1
      · exact f8 k (by omega)
theorem go1_ok (F : Nat → Int32) (M : Nat → Nat → Int32) : ∀ n k, k < n → L_go1 F M n k = -9 := by
  intro n
  induction n with
  | zero => intro k h; omega
  | succ n ih =>
    intro k hk
    rw [L_go1]
    by_cases c : k = n
    · subst c; rw [up_at]
    · rw [up_ne c]; exact ih k (by omega)
theorem goC_z {f : Nat → Int32} : ∀ n, (∀ k, k < n → f k = -9) → goC f n = 0 := by
  intro n
  induction n with
  | zero => intro _; rfl
  | succ n ih => intro h; rw [goC, ih (fun k hk => h k (by omega)), if_pos (h n (Nat.lt_succ_self n))]
theorem go0_ok (F : Nat → Int32) (M : Nat → Nat → Int32) : goI (M 46) 1 (upd (L_go1 F M n31) 0 0) (upd (M 48) 0 0) (fun _ => 0) := by
  have h9 : ∀ k, k < 31 → L_go1 F M n31 k = -9 := fun k hk => go1_ok F M n31 k (by rw [n31_eq]; exact hk)
  have k0 : ∀ k, k < 31 → ¬ upd (L_go1 F M n31) 0 0 k = -9 → k = 0 := by
    intro k hk q
    by_cases c : k = 0
    · exact c
    · rw [up_ne c] at q; exact absurd (h9 k hk) q
  refine ⟨fun k hk q => ⟨Nat.zero_lt_one, Or.inl (k0 k hk q)⟩, up_at _ _ _, ?_, ?_, ?_⟩
  · intro j hj
    have e : j = 0 := by omega
    subst e
    exact ⟨0, by decide, by rw [up_at]; rfl, by rw [up_at]; decide⟩
  · intro k hk q
    have e := k0 k hk q
    subst e
    exact ⟨0, Nat.zero_lt_one, by rw [up_at]; rfl⟩
  · rw [goC_up (h9 0 (by decide)) (by decide), if_pos (by decide), goC_z 31 h9]
theorem go2_ok (F : Nat → Int32) (M : Nat → Nat → Int32) : ∀ i, (∀ j, j < i → ¬ (L_go2 F M j).1 ≤ nI j) → i ≤ 31 → ∃ m ρ, m ≤ 31 ∧ (L_go2 F M i).1 = nI m ∧ goI (M 46) m (L_go2 F M i).2.1 (L_go2 F M i).2.2 ρ ∧ goK (M 46) i (L_go2 F M i).2.1 (L_go2 F M i).2.2 := by
  intro i
  induction i with
  | zero =>
    intro _ _
    exact ⟨1, fun _ => 0, by decide, rfl, go0_ok F M, fun j hj => absurd hj (Nat.not_lt_zero j)⟩
  | succ i ih =>
    intro h h31
    obtain ⟨m, ρ, f0, f1, f2, f3⟩ := ih (fun j hj => h j (by omega)) (by omega)
    have hi : i < m := by
      have q := h i (Nat.lt_succ_self i)
      rw [f1] at q
      by_cases c : i < m
      · exact c
      · exact absurd (nI_le (show m ≤ i by omega) (by omega)) q
    rw [L_go2]
    obtain ⟨m', ρ', u, g1, g2, g3, g4, g5, g6, g7, g8⟩ := go3_ok (F := F) (M := M) f1 f2 hi f3 n31 (by rw [n31_eq]; exact Nat.le_refl 31)
    refine ⟨m', ρ', ?_, g1, g2, ?_⟩
    · have := goC_le (L_go3 F M i (L_go2 F M i).1 (L_go2 F M i).2.1 (L_go2 F M i).2.2 n31).2.1 31
      have := g2.e
      omega
    · intro j hj v hv e k hk
      by_cases c : j = i
      · subst c
        have : nI v = nI u := by rw [← e, ← g6]
        have : v = u := (nI_eq (by omega) (by omega)).mp this
        subst this
        exact g8 k (by rw [n31_eq]; exact hk)
      · exact g4 j (by omega) v hv e k hk
theorem first_ex (c : Nat → Prop) : ∀ n, (∀ i, i < n → ¬ c i) ∨ ∃ N, N < n ∧ c N ∧ ∀ i, i < N → ¬ c i := by
  intro n
  induction n with
  | zero => exact Or.inl (fun i h => absurd h (Nat.not_lt_zero i))
  | succ n ih =>
    rcases ih with h | ⟨N, h1, h2, h3⟩
    · by_cases q : c n
      · exact Or.inr ⟨n, Nat.lt_succ_self n, q, h⟩
      · refine Or.inl (fun i hi => ?_)
        by_cases e : i = n
        · subst e; exact q
        · exact h i (by omega)
    · exact Or.inr ⟨N, by omega, h2, h3⟩
theorem go4_ok {F : Nat → Int32} {M : Nat → Nat → Int32} {N1 m : Nat} {ρ : Nat → Nat} (h : goI (M 46) m (L_go2 F M N1).2.1 (L_go2 F M N1).2.2 ρ) (h30 : ¬ (L_go2 F M N1).2.1 30 = -9) : ∀ i, (∀ j, j < i → ¬ (L_go4 F M N1 j).1 = 0) → ∃ k, k < 31 ∧ (L_go4 F M N1 i).1 = nI k ∧ ¬ (L_go2 F M N1).2.1 k = -9 ∧ ρ k + i ≤ ρ 30 := by
  intro i
  induction i with
  | zero => intro _; exact ⟨30, by decide, rfl, h30, Nat.le_refl _⟩
  | succ i ih =>
    intro q
    obtain ⟨k, e1, e2, e3, e4⟩ := ih (fun j hj => q j (by omega))
    have q0 := q i (Nat.lt_succ_self i)
    rw [e2] at q0
    rw [L_go4]
    simp only
    rw [e2, nI_clamp (by omega)]
    obtain ⟨p1, p2⟩ := h.a k e1 e3
    rcases p2 with p2 | ⟨u, r1, r2, r3, r4, r5⟩
    · subst p2; exact absurd rfl q0
    · exact ⟨u, r1, r2, r3, by omega⟩
def goN (F : Nat → Int32) (M : Nat → Nat → Int32) (N1 N2 : Nat) : Prop := N1 ≤ 31 ∧ (∀ i, i < N1 → ¬ (L_go2 F M i).1 ≤ nI i) ∧ (L_go2 F M N1).1 ≤ nI N1 ∧ (¬ (L_go2 F M N1).2.1 30 = -9 → (∀ i, i < N2 → ¬ (L_go4 F M N1 i).1 = 0) ∧ (L_go4 F M N1 N2).1 = 0)
theorem goN_ex (F : Nat → Int32) (M : Nat → Nat → Int32) : ∃ N1 N2, goN F M N1 N2 := by
  have h1 : ∃ N1, N1 ≤ 31 ∧ (∀ i, i < N1 → ¬ (L_go2 F M i).1 ≤ nI i) ∧ (L_go2 F M N1).1 ≤ nI N1 := by
    rcases first_ex (fun i => (L_go2 F M i).1 ≤ nI i) 31 with h | ⟨N, q1, q2, q3⟩
    · obtain ⟨m, ρ, f0, f1, f2, f3⟩ := go2_ok F M 31 h (Nat.le_refl 31)
      exact ⟨31, Nat.le_refl 31, h, by rw [f1]; exact nI_le f0 (by decide)⟩
    · exact ⟨N, by omega, q3, q2⟩
  obtain ⟨N1, a1, a2, a3⟩ := h1
  obtain ⟨m, ρ, f0, f1, f2, f3⟩ := go2_ok F M N1 a2 a1
  by_cases c : (L_go2 F M N1).2.1 30 = -9
  · exact ⟨N1, 0, a1, a2, a3, fun q => absurd c q⟩
  · rcases first_ex (fun i => (L_go4 F M N1 i).1 = 0) 32 with h | ⟨N, q1, q2, q3⟩
    · obtain ⟨k, e1, e2, e3, e4⟩ := go4_ok f2 c 32 h
      have := (f2.a 30 (by decide) c).1
      omega
    · exact ⟨N1, N, a1, a2, a3, fun _ => ⟨q3, q2⟩⟩
theorem goN_B1 {F : Nat → Int32} {M : Nat → Nat → Int32} {N1 N2 : Nat} (h : goN F M N1 N2) : ∀ i, i < N1 → ∀ j, j < n31 → vp_in ((L_go3 F M i (L_go2 F M i).1 (L_go2 F M i).2.1 (L_go2 F M i).2.2 j).2.2 i) 31 ∧ ((L_go3 F M i (L_go2 F M i).1 (L_go2 F M i).2.1 (L_go2 F M i).2.2 j).2.1 j = -9 → vp_in (L_go3 F M i (L_go2 F M i).1 (L_go2 F M i).2.1 (L_go2 F M i).2.2 j).1 31) := by
  intro i hi j hj
  rw [n31_eq] at hj
  obtain ⟨a1, a2, a3, a4⟩ := h
  obtain ⟨m, ρ, f0, f1, f2, f3⟩ := go2_ok F M i (fun j hj => a2 j (by omega)) (by omega)
  have him : i < m := by
    have q := a2 i hi
    rw [f1] at q
    by_cases c : i < m
    · exact c
    · exact absurd (nI_le (show m ≤ i by omega) (by omega)) q
  obtain ⟨m', ρ', u, g1, g2, g3, g4, g5, g6, g7, g8⟩ := go3_ok (F := F) (M := M) f1 f2 him f3 j (by omega)
  refine ⟨by rw [g6]; exact vp_in_nI g5 (by decide), fun q => ?_⟩
  rw [g1]
  exact vp_in_nI (g2.lt hj q) (by decide)
theorem goN_q {F : Nat → Int32} {M : Nat → Nat → Int32} {N1 N2 : Nat} (h : goN F M N1 N2) : ¬ (L_go2 F M N1).2.1 30 = -9 → (∀ i, i < N2 → ¬ (L_go4 F M N1 i).1 = 0) ∧ (L_go4 F M N1 N2).1 = 0 ∧ ∀ i, i < N2 → vp_in (L_go4 F M N1 i).1 31 ∧ vp_in ((L_go2 F M N1).2.1 ((L_go4 F M N1 i).1).toNatClampNeg) 31 := by
  intro q
  obtain ⟨a1, a2, a3, a4⟩ := h
  obtain ⟨b1, b2⟩ := a4 q
  refine ⟨b1, b2, fun i hi => ?_⟩
  obtain ⟨m, ρ, f0, f1, f2, f3⟩ := go2_ok F M N1 a2 a1
  obtain ⟨k, e1, e2, e3, e4⟩ := go4_ok f2 q i (fun j hj => b1 j (by omega))
  have n0 := b1 i hi
  rw [e2] at n0 ⊢
  refine ⟨vp_in_nI e1 (by decide), ?_⟩
  rw [nI_clamp (by omega)]
  obtain ⟨p1, p2⟩ := f2.a k e1 e3
  rcases p2 with p2 | ⟨u, r1, r2, r3, r4, r5⟩
  · subst p2; exact absurd rfl n0
  · rw [r2]; exact vp_in_nI r1 (by decide)
noncomputable def gN1 (F : Nat → Int32) (M : Nat → Nat → Int32) : Nat := Classical.choose (goN_ex F M)
noncomputable def gN2 (F : Nat → Int32) (M : Nat → Nat → Int32) : Nat := Classical.choose (Classical.choose_spec (goN_ex F M))
theorem gN_ok (F : Nat → Int32) (M : Nat → Nat → Int32) : goN F M (gN1 F M) (gN2 F M) := Classical.choose_spec (Classical.choose_spec (goN_ex F M))
noncomputable def s_goes (F : Nat → Int32) (M : Nat → Nat → Int32) : Int32 × ((Nat → Int32) × (Nat → Nat → Int32)) := s_X11_goes F M (gN1 F M) (gN2 F M)
/-- a cut's sum over the room -/
def csum (w : Nat → Bool) (R : Nat → Int32) : Nat → Int
  | 0 => 0
  | n + 1 => csum w R n + (if w n then (R n).toInt else 0)
theorem csum_up (w : Nat → Bool) (R : Nat → Int32) (k : Nat) (v : Int32) : ∀ n, csum w (upd R k v) n = csum w R n + (if k < n then (if w k then v.toInt - (R k).toInt else 0) else 0) := by
  intro n
  induction n with
  | zero => rfl
  | succ n ih =>
    rw [csum, csum, ih]
    by_cases c : n = k
    · subst c
      rw [up_at, if_neg (Nat.lt_irrefl n), if_pos (Nat.lt_succ_self n)]
      cases w n
      · simp
      · simp; omega
    · rw [up_ne c]
      by_cases c2 : k < n
      · rw [if_pos c2, if_pos (show k < n + 1 by omega)]; omega
      · rw [if_neg c2, if_neg (show ¬ k < n + 1 by omega)]; omega
def cutw (S : Nat → Bool) (k : Nat) : Bool := S (k / 31) && !S (k % 31)
def cut (S : Nat → Bool) (R : Nat → Int32) : Int := csum (cutw S) R 961
def b1 (b : Bool) : Int := if b then 1 else 0
theorem cut_edge {S : Nat → Bool} {R : Nat → Int32} {u k : Nat} (hu : u < 31) (hk : k < 31) {x y : Int32} (hx : x.toInt = (R (31 * u + k)).toInt - 1) (hy : y.toInt = (upd R (31 * u + k) x (31 * k + u)).toInt + 1) : cut S (upd (upd R (31 * u + k) x) (31 * k + u) y) = cut S R + b1 (S k) - b1 (S u) := by
  unfold cut
  rw [csum_up, csum_up, if_pos (show 31 * u + k < 961 by omega), if_pos (show 31 * k + u < 961 by omega), hx, hy]
  have e1 : cutw S (31 * u + k) = (S u && !S k) := by unfold cutw; rw [show (31 * u + k) / 31 = u by omega, show (31 * u + k) % 31 = k by omega]
  have e2 : cutw S (31 * k + u) = (S k && !S u) := by unfold cutw; rw [show (31 * k + u) / 31 = k by omega, show (31 * k + u) % 31 = u by omega]
  rw [e1, e2]
  unfold b1
  cases S u <;> cases S k <;> simp <;> omega
theorem gb_m1 {x : Int32} (h : -2147483648 < x.toInt) : (x - 1).toInt = x.toInt - 1 := by
  have := ib_rng x
  rw [ib_sub (by rw [ib_1]; omega) (by rw [ib_1]; omega), ib_1]
theorem gb_p1 {x : Int32} (h : x.toInt < 2147483647) : (x + 1).toInt = x.toInt + 1 := by
  have := ib_rng x
  rw [ib_add (by rw [ib_1]; omega) (by rw [ib_1]; omega), ib_1]
theorem go4_fl {F : Nat → Int32} {M : Nat → Nat → Int32} {N1 m : Nat} {ρ : Nat → Nat} {B : Int} (h : goI (M 46) m (L_go2 F M N1).2.1 (L_go2 F M N1).2.2 ρ) (h30 : ¬ (L_go2 F M N1).2.1 30 = -9) (hB : B < 2000000000) (hR : ∀ k, k < 961 → 0 ≤ (M 46 k).toInt ∧ (M 46 k).toInt ≤ B) : ∀ i, i < 1000 → (∀ j, j < i → ¬ (L_go4 F M N1 j).1 = 0) → ∃ k, k < 31 ∧ (L_go4 F M N1 i).1 = nI k ∧ ¬ (L_go2 F M N1).2.1 k = -9 ∧ ρ k + i ≤ ρ 30 ∧ (∀ x, x < 961 → 0 ≤ ((L_go4 F M N1 i).2 x).toInt ∧ ((L_go4 F M N1 i).2 x).toInt ≤ B + i) ∧ (∀ u x, u < 31 → x < 31 → ρ x ≤ ρ k → (M 46 (31 * u + x)).toInt ≤ ((L_go4 F M N1 i).2 (31 * u + x)).toInt) ∧ ∀ S : Nat → Bool, cut S (L_go4 F M N1 i).2 = cut S (M 46) + b1 (S 30) - b1 (S k) := by
  intro i
  induction i with
  | zero => intro _ _; exact ⟨30, by decide, rfl, h30, Nat.le_refl _, fun x hx => ⟨(hR x hx).1, by have := (hR x hx).2; show (M 46 x).toInt ≤ B + 0; omega⟩, fun _ _ _ _ _ => Int.le_refl _, fun S => by show cut S (M 46) = _; omega⟩
  | succ i ih =>
    intro hi q
    obtain ⟨k, e1, e2, e3, e4, e5, e6, e7⟩ := ih (by omega) (fun j hj => q j (by omega))
    have q0 := q i (Nat.lt_succ_self i)
    rw [L_go4]
    generalize L_go4 F M N1 i = G at e2 e5 e6 e7 q0 ⊢
    obtain ⟨g0, R⟩ := G
    simp only at e2 e5 e6 e7 q0 ⊢
    rw [e2] at q0
    rw [e2, nI_clamp (by omega)]
    obtain ⟨p1, p2⟩ := h.a k e1 e3
    rcases p2 with p2 | ⟨u, r1, r2, r3, r4, r5⟩
    · subst p2; exact absurd rfl q0
    · rw [r2, x31 r1 e1, x31 e1 r1]
      have hlt : 0 < (M 46 (31 * u + k)).toInt := by
        have := ib_lt.mp (Int32.not_le.mp r5); rw [ib_0] at this; exact this
      have h1 := e6 u k r1 e1 (Nat.le_refl _)
      have x1 : (R (31 * u + k) - 1).toInt = (R (31 * u + k)).toInt - 1 := gb_m1 (by omega)
      have b1 := e5 (31 * u + k) (by omega)
      have b2 := e5 (31 * k + u) (by omega)
      have y1 : (upd R (31 * u + k) (R (31 * u + k) - 1) (31 * k + u) + 1).toInt = (upd R (31 * u + k) (R (31 * u + k) - 1) (31 * k + u)).toInt + 1 := by
        apply gb_p1
        by_cases c : 31 * k + u = 31 * u + k
        · rw [c, up_at, x1]; omega
        · rw [up_ne c]; omega
      refine ⟨u, r1, rfl, r3, by omega, ?_, ?_, ?_⟩
      · intro x hx
        have bx := e5 x hx
        by_cases c : x = 31 * k + u
        · subst c
          rw [up_at, y1]
          by_cases c2 : 31 * k + u = 31 * u + k
          · rw [c2, up_at, x1]; rw [c2] at bx; omega
          · rw [up_ne c2]; omega
        · rw [up_ne c]
          by_cases c2 : x = 31 * u + k
          · subst c2; rw [up_at, x1]; omega
          · rw [up_ne c2]; omega
      · intro v x hv hx hρ
        have hxk : ¬ x = k := fun c => by subst c; omega
        have g := e6 v x hv hx (by omega)
        by_cases c : 31 * v + x = 31 * k + u
        · rw [c, up_at, y1, up_ne (show ¬ 31 * k + u = 31 * u + k by omega)]; rw [c] at g; omega
        · rw [up_ne c, up_ne (show ¬ 31 * v + x = 31 * u + k by omega)]; exact g
      · intro S
        rw [cut_edge r1 e1 x1 y1, e7 S]
        omega
/-- one try of the reference -/
theorem goes_fl {F : Nat → Int32} {M : Nat → Nat → Int32} {B : Int} (hB : B < 2000000000) (hR : ∀ k, k < 961 → 0 ≤ (M 46 k).toInt ∧ (M 46 k).toInt ≤ B) : (s_goes F M).2.1 = F ∧ (∀ j, ¬ j = 46 → ¬ j = 47 → ¬ j = 48 → (s_goes F M).2.2 j = M j) ∧
    (((s_goes F M).1 = 0 ∧ ∃ S : Nat → Bool, S 0 = true ∧ S 30 = false ∧ cut S (M 46) = 0) ∨
     ((s_goes F M).1 = 1 ∧ (∀ k, k < 961 → 0 ≤ ((s_goes F M).2.2 46 k).toInt ∧ ((s_goes F M).2.2 46 k).toInt ≤ B + 31) ∧ ∀ S : Nat → Bool, S 0 = true → S 30 = false → cut S ((s_goes F M).2.2 46) = cut S (M 46) - 1)) := by
  have hN := gN_ok F M
  unfold s_goes
  generalize gN1 F M = N1 at hN ⊢
  generalize gN2 F M = N2 at hN ⊢
  obtain ⟨a1, a2, a3, a4⟩ := hN
  obtain ⟨m, ρ, f0, f1, f2, f3⟩ := go2_ok F M N1 a2 a1
  have hm : m ≤ N1 := by
    rw [f1] at a3
    by_cases c : m ≤ N1
    · exact c
    · exact absurd a3 (nI_ge (by omega) (by omega))
  unfold s_X11_goes
  by_cases c : (L_go2 F M N1).2.1 30 = -9
  · rw [if_pos c]
    refine ⟨rfl, ?_, Or.inl ⟨rfl, fun k => !decide ((L_go2 F M N1).2.1 k = -9), ?_, ?_, ?_⟩⟩
    · intro j h1 h2 h3
      show va_up (va_up M 47 _) 48 _ j = M j
      unfold va_up; rw [if_neg h3, if_neg h2]
    · show (!decide ((L_go2 F M N1).2.1 0 = -9)) = true; rw [f2.b]; rfl
    · show (!decide ((L_go2 F M N1).2.1 30 = -9)) = false; rw [c]; rfl
    · unfold cut
      have key : ∀ n, n ≤ 961 → csum (cutw (fun k => !decide ((L_go2 F M N1).2.1 k = -9))) (M 46) n = 0 := by
        intro n
        induction n with
        | zero => intro _; rfl
        | succ n ih =>
          intro hn
          rw [csum, ih (by omega)]
          by_cases c2 : cutw (fun k => !decide ((L_go2 F M N1).2.1 k = -9)) n = true
          · rw [if_pos c2]
            unfold cutw at c2
            simp only [Bool.and_eq_true, Bool.not_eq_true', Bool.not_not, decide_eq_false_iff_not, decide_eq_true_eq, Bool.not_eq_false'] at c2
            obtain ⟨j, j1, j2⟩ := f2.d (n / 31) (by omega) c2.1
            have := f3 j (by omega) (n / 31) (by omega) j2 (n % 31) (by omega)
            rw [show 31 * (n / 31) + n % 31 = n by omega] at this
            rcases this with t | t
            · exact absurd c2.2 t
            · have t2 := ib_le.mp t
              rw [ib_0] at t2
              have := hR n (by omega)
              omega
          · rw [if_neg c2]; rfl
      exact key 961 (Nat.le_refl _)
  · rw [if_neg c]
    obtain ⟨b1', b2'⟩ := a4 c
    have hN2 : N2 < 1000 := by
      by_cases c2 : N2 < 1000
      · exact c2
      · obtain ⟨k, e1, e2, e3, e4⟩ := go4_ok f2 c 100 (fun j hj => b1' j (by omega))
        have := (f2.a 30 (by decide) c).1
        omega
    obtain ⟨k, e1, e2, e3, e4, e5, e6, e7⟩ := go4_fl f2 c hB hR N2 hN2 b1'
    have hk : k = 0 := by
      rw [e2] at b2'
      exact (nI_eq (by omega) (by decide)).mp b2'
    subst hk
    have hr := (f2.a 30 (by decide) c).1
    refine ⟨rfl, ?_, Or.inr ⟨rfl, ?_, ?_⟩⟩
    · intro j h1 h2 h3
      show va_up (va_up (va_up M 47 _) 48 _) 46 _ j = M j
      unfold va_up; rw [if_neg h1, if_neg h3, if_neg h2]
    · intro x hx
      show 0 ≤ ((L_go4 F M N1 N2).2 x).toInt ∧ ((L_go4 F M N1 N2).2 x).toInt ≤ B + 31
      have := e5 x hx
      omega
    · intro S h0 h3
      show cut S (L_go4 F M N1 N2).2 = cut S (M 46) - 1
      rw [e7 S, h0, h3]
      show cut S (M 46) + 0 - 1 = _
      omega
