def jv (F : Nat → Int32) (M : Nat → Nat → Int32) : Prop := (∀ k, k < (F 16).toNatClampNeg → (M 20 k ≤ 30000 ∧ (0 ≤ M 19 k ∧ M 19 k ≤ 30000) ∧ (0 ≤ M 18 k ∧ M 18 k ≤ 2) ∧ vp_in (M 17 k) (F 7).toNatClampNeg)) ∧ (∀ i, i < (F 7).toNatClampNeg → ((0 ≤ M 8 i ∧ M 8 i ≤ 2) ∧ (¬ M 15 i = -9 → M 8 i = 1) ∧ (0 ≤ M 10 i ∧ M 10 i ≤ 65535) ∧ (0 ≤ M 11 i ∧ M 11 i ≤ 30000) ∧ (M 8 i = 2 → 0 ≤ M 13 i ∧ M 13 i ≤ M 14 i ∧ M 14 i ≤ 30500))) ∧ (∀ i, i < (F 7).toNatClampNeg → L_lastOf F M (nI i) 0 30000 (F 16).toNatClampNeg = -9 → L_lastOf F M (nI i) 1 30000 (F 16).toNatClampNeg = -9) ∧ (∀ i, i < (F 21).toNatClampNeg → (0 ≤ M 23 i ∧ M 23 i ≤ 2)) ∧ (∀ i, i < (F 38).toNatClampNeg → (0 ≤ M 41 i ∧ M 41 i ≤ F 3 ∧ ∀ j, j ≤ i → M 41 j ≤ M 41 i)) ∧ (∀ i, i < (F 32).toNatClampNeg → (0 ≤ M 34 i ∧ M 34 i ≤ 65535)) ∧ (∀ k, k < 72 → (0 ≤ M 42 k ∧ M 42 k ≤ 9)) ∧ (∀ k, k < 48 → vp_nar .byte (M 44 k) = M 44 k) ∧ (∀ p, p < 6 → (0 ≤ M 5 p ∧ M 5 p ≤ M 6 p ∧ M 6 p ≤ 500))
theorem jv_n {F : Nat → Int32} {M : Nat → Nat → Int32} (h : jv F M) : ∀ k, k < (F 16).toNatClampNeg → (M 20 k ≤ 30000 ∧ (0 ≤ M 19 k ∧ M 19 k ≤ 30000) ∧ (0 ≤ M 18 k ∧ M 18 k ≤ 2) ∧ vp_in (M 17 k) (F 7).toNatClampNeg) := h.1
theorem jv_p {F : Nat → Int32} {M : Nat → Nat → Int32} (h : jv F M) : ∀ i, i < (F 7).toNatClampNeg → ((0 ≤ M 8 i ∧ M 8 i ≤ 2) ∧ (¬ M 15 i = -9 → M 8 i = 1) ∧ (0 ≤ M 10 i ∧ M 10 i ≤ 65535) ∧ (0 ≤ M 11 i ∧ M 11 i ≤ 30000) ∧ (M 8 i = 2 → 0 ≤ M 13 i ∧ M 13 i ≤ M 14 i ∧ M 14 i ≤ 30500)) := h.2.1
theorem jv_r {F : Nat → Int32} {M : Nat → Nat → Int32} (h : jv F M) : ∀ i, i < (F 7).toNatClampNeg → L_lastOf F M (nI i) 0 30000 (F 16).toNatClampNeg = -9 → L_lastOf F M (nI i) 1 30000 (F 16).toNatClampNeg = -9 := h.2.2.1
theorem jv_s {F : Nat → Int32} {M : Nat → Nat → Int32} (h : jv F M) : ∀ i, i < (F 21).toNatClampNeg → (0 ≤ M 23 i ∧ M 23 i ≤ 2) := h.2.2.2.1
theorem jv_a {F : Nat → Int32} {M : Nat → Nat → Int32} (h : jv F M) : ∀ i, i < (F 38).toNatClampNeg → (0 ≤ M 41 i ∧ M 41 i ≤ F 3 ∧ ∀ j, j ≤ i → M 41 j ≤ M 41 i) := h.2.2.2.2.1
theorem jv_c {F : Nat → Int32} {M : Nat → Nat → Int32} (h : jv F M) : ∀ i, i < (F 32).toNatClampNeg → (0 ≤ M 34 i ∧ M 34 i ≤ 65535) := h.2.2.2.2.2.1
theorem jv_h {F : Nat → Int32} {M : Nat → Nat → Int32} (h : jv F M) : ∀ k, k < 72 → (0 ≤ M 42 k ∧ M 42 k ≤ 9) := h.2.2.2.2.2.2.1
theorem jv_b {F : Nat → Int32} {M : Nat → Nat → Int32} (h : jv F M) : ∀ k, k < 48 → vp_nar .byte (M 44 k) = M 44 k := h.2.2.2.2.2.2.2.1
theorem jv_q {F : Nat → Int32} {M : Nat → Nat → Int32} (h : jv F M) : ∀ p, p < 6 → (0 ≤ M 5 p ∧ M 5 p ≤ M 6 p ∧ M 6 p ≤ 500) := h.2.2.2.2.2.2.2.2

theorem lt_lt {A B : Nat → Int32} {p w : Int32} : ∀ {n k : Nat}, lt_N A B p w n = some k → k < n ∧ A k = p ∧ B k = w := by
  intro n
  induction n with
  | zero => intro k h; cases h
  | succ n ih =>
    intro k h
    rw [lt_N] at h
    by_cases c : A n = p ∧ B n = w
    · rw [if_pos c] at h; cases h; exact ⟨Nat.lt_succ_self n, c⟩
    · rw [if_neg c] at h
      have := ih h
      exact ⟨by omega, this.2⟩
theorem lo_lt {F : Nat → Int32} {M : Nat → Nat → Int32} {p w kk : Int32} : ∀ {n : Nat}, (∀ i, i < n → M 20 i ≤ kk) → L_lastOf F M p w kk n = (match lt_N (M 17) (M 18) p w n with | none => -9 | some j => M 19 j) := by
  intro n
  induction n with
  | zero => intro _; rfl
  | succ n ih =>
    intro h
    have ih := ih (fun i hi => h i (by omega))
    rw [L_lastOf, lt_N]
    by_cases c1 : M 17 n = p
    · by_cases c2 : M 18 n = w
      · rw [if_pos c1, if_pos c2, if_neg (Int32.not_lt.mpr (h n (Nat.lt_succ_self n))), if_pos ⟨c1, c2⟩]
      · rw [if_pos c1, if_neg c2, if_neg (fun q => c2 q.2)]; exact ih
    · rw [if_neg c1, if_neg (fun q => c1 q.1)]; exact ih
theorem lo_step {F : Nat → Int32} {M : Nat → Nat → Int32} {p w kk : Int32} : ∀ {n : Nat}, L_lastOf F M p w kk n = L_lastOf F M p w kk (match lt_N (M 17) (M 18) p w n with | none => 0 | some j => j + 1) := by
  intro n
  induction n with
  | zero => rfl
  | succ n ih =>
    rw [lt_N]
    by_cases c1 : M 17 n = p ∧ M 18 n = w
    · rw [if_pos c1]
    · rw [if_neg c1, ← ih, L_lastOf]
      by_cases c2 : M 17 n = p
      · rw [if_pos c2, if_neg (fun q => c1 ⟨c2, q⟩)]
      · rw [if_neg c2]
/-- the last day, from the chain -/
theorem lo_n {F : Nat → Int32} {M : Nat → Nat → Int32} {p w : Int32} (hJ : jv F M) (h : lt_N (M 17) (M 18) p w (F 16).toNatClampNeg = none) : s_X11_lastOf F M p w 30000 = -9 := by
  unfold s_X11_lastOf
  rw [lo_lt (fun i hi => (jv_n hJ i hi).1), h]
theorem lo_s {F : Nat → Int32} {M : Nat → Nat → Int32} {p w : Int32} {k : Nat} (hJ : jv F M) (h : lt_N (M 17) (M 18) p w (F 16).toNatClampNeg = some k) : s_X11_lastOf F M p w 30000 = M 19 k := by
  unfold s_X11_lastOf
  rw [lo_lt (fun i hi => (jv_n hJ i hi).1), h]
theorem lp_wh {p : Program} {l : Launch} {e : Env} {R : Room} {s : State} {m : MethodId} {args : Array Value} {below : List Frame} {meth : Method} {c : Code} {H : Heap} {locs : List Loc} {cells slots : Nat} {Q : State → Prop} {pc nL : Nat} {σ : Type} (mu : σ → Nat) (lv : σ → List (Nat × Value)) (I : σ → Prop)
    (step : ∀ x, I x → ∀ ls : Array Slot, lv_has ls nL (lv x) → (∀ y, I y → mu y < mu x → ∀ ls' : Array Slot, lv_has ls' nL (lv y) → W p l e R s m args below meth c H locs cells slots Q (F0 m pc ls' [])) → W p l e R s m args below meth c H locs cells slots Q (F0 m pc ls []))
    (x : σ) (hx : I x) (ls : Array Slot) (hl : lv_has ls nL (lv x)) : W p l e R s m args below meth c H locs cells slots Q (F0 m pc ls []) := by
  have key : ∀ n x, mu x < n → I x → ∀ ls : Array Slot, lv_has ls nL (lv x) → W p l e R s m args below meth c H locs cells slots Q (F0 m pc ls []) := by
    intro n
    induction n with
    | zero => intro x h; exact absurd h (Nat.not_lt_zero _)
    | succ n ih => intro x h hx ls hl; exact step x hx ls hl (fun y hy hm ls' hl' => ih y (by omega) hy ls' hl')
  exact key (mu x + 1) x (Nat.lt_succ_self _) hx ls hl
def up_o (x : Option Nat) : Nat := match x with | none => 0 | some k => k + 1

