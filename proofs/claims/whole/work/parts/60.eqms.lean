def phN (b : Nat → Bool) : Nat → Int32
  | 0 => 0
  | q + 1 => if b q = true then (phN b q) ||| (1 <<< ((nI (q + 1)) &&& 31)) else phN b q
def bN (T : Nat → Bool) : Nat := (if T 0 = true then 1 else 0) + (if T 1 = true then 2 else 0) + (if T 2 = true then 4 else 0) + (if T 3 = true then 8 else 0) + (if T 4 = true then 16 else 0)
theorem bN_lt (T : Nat → Bool) : bN T < 32 := by
  unfold bN
  repeat' split
  all_goals omega
theorem bN_bit (T : Nat → Bool) : ∀ q, q < 5 → (bN T).testBit q = T q := by
  intro q hq
  have h : q = 0 ∨ q = 1 ∨ q = 2 ∨ q = 3 ∨ q = 4 := by omega
  unfold bN
  cases h0 : T 0 <;> cases h1 : T 1 <;> cases h2 : T 2 <;> cases h3 : T 3 <;> cases h4 : T 4 <;> rcases h with h | h | h | h | h <;> subst h <;> simp only [h0, h1, h2, h3, h4] <;> decide
theorem phN_v (b : Nat → Bool) : phN b 5 = nI (2 * bN b) := by
  unfold bN
  simp only [phN]
  cases h0 : b 0 <;> cases h1 : b 1 <;> cases h2 : b 2 <;> cases h3 : b 3 <;> cases h4 : b 4 <;> decide
theorem ph_N (F : Nat → Int32) (M : Nat → Nat → Int32) (p0 p1 p2 : Int32) : ∀ n, L_ph F M p0 p1 p2 n = phN (fun q => decide (p1 ≤ M 42 (12 * (q + 1) + p0.toNatClampNeg) ∧ M 42 (12 * (q + 1) + p0.toNatClampNeg) ≤ p2)) n := by
  intro n
  induction n with
  | zero => rfl
  | succ n ih =>
    rw [L_ph, phN, ih]
    simp only [decide_eq_true_eq]
theorem and32 : ∀ v, v < 32 → ∀ k, k < 32 → nI (2 * v) &&& nI (2 * k) = nI (2 * (v &&& k)) := by decide +kernel
theorem sub32 : ∀ i, i < 32 → ∀ k, k < 32 → ((nI (2 * i) &&& (nI (2 * k) ^^^ (-1)) = 0) ↔ (i &&& k = i)) := by decide +kernel
theorem dif32 : ∀ i, i < 32 → ∀ k, k < 32 → nI (2 * k) &&& (nI (2 * i) ^^^ (-1)) = nI (2 * (k &&& (31 ^^^ i))) := by decide +kernel
theorem z32 : ∀ v, v < 32 → (nI (2 * v) = 0 ↔ v = 0) := by decide +kernel
theorem bit32 : ∀ k, k < 32 → ∀ q, q < 5 → ((((nI (2 * k)) >>> ((nI (q + 1)) &&& 31)) &&& 1) = 1 ↔ k.testBit q = true) := by decide +kernel
def pc5 (v : Nat) : Nat := (if v.testBit 0 = true then 1 else 0) + (if v.testBit 1 = true then 1 else 0) + (if v.testBit 2 = true then 1 else 0) + (if v.testBit 3 = true then 1 else 0) + (if v.testBit 4 = true then 1 else 0)
theorem bits32 : ∀ v, v < 32 → s_X11_bitsOf (nI (2 * v)) = nI (pc5 v) := by decide +kernel
theorem pc5_le (v : Nat) : pc5 v ≤ 5 := by
  unfold pc5
  repeat' split
  all_goals omega
theorem and_lt32 {v k : Nat} (h : v < 32) : v &&& k < 32 := Nat.lt_of_le_of_lt Nat.and_le_left h
theorem eq32 : ∀ v, v < 32 → (v = 0 ↔ ∀ q, q < 5 → v.testBit q = false) := by decide +kernel
theorem dlt : ∀ k, k < 32 → ∀ i, i < 32 → k &&& (31 ^^^ i) < 32 := by decide +kernel
theorem dbit : ∀ k, k < 32 → ∀ i, i < 32 → ∀ q, q < 5 → (k &&& (31 ^^^ i)).testBit q = (k.testBit q && !i.testBit q) := by decide +kernel
theorem subq : ∀ i, i < 32 → ∀ k, k < 32 → i &&& k = i → ∀ q, q < 5 → i.testBit q = true → k.testBit q = true := by decide +kernel
theorem subof : ∀ i, i < 32 → ∀ k, k < 32 → (∀ q, q < 5 → i.testBit q = true → k.testBit q = true) → i &&& k = i := by decide +kernel
/- the value of a set of partners that come before -/
noncomputable def gvx (c : Nat → Int32) (j x : Nat) : Int := if c x = 0 then (@ite Int (∀ q, q < 5 → ¬ (j.testBit q = true ∧ ¬ c (12 * (q + 1) + x) ≤ 1)) (Classical.propDecidable _) 0 1) else 0
def bzx (c : Nat → Int32) (i x : Nat) : Nat → Nat
  | 0 => 0
  | q + 1 => bzx c i x q + (if i.testBit q = true ∧ c (12 * (q + 1) + x) = 0 then 1 else 0)
def tkx (c : Nat → Int32) (i x : Nat) : Int := min (lyD c x).toInt (bzx c i x 5)
theorem wnG_z {F : Nat → Int32} {M : Nat → Nat → Int32} (hc : ∀ y, y < 72 → in9 (M 42 y)) {x j : Nat} (hx : x < 12) (hj : j < 32) : ((wnG F M (nI x)) &&& (nI (2 * j)) = 0) ↔ gvx (M 42) j x = 0 := by
  unfold wnG gvx
  rw [nI_clamp (show x < 2 ^ 31 by omega)]
  by_cases c0 : M 42 x = 0
  · rw [if_pos c0, if_pos c0, ph_N, phN_v, and32 _ (bN_lt _) j hj, z32 _ (and_lt32 (bN_lt _)), eq32 _ (and_lt32 (bN_lt _))]
    have e : ∀ q, q < 5 → (((bN fun q => decide (2 ≤ M 42 (12 * (q + 1) + (nI x).toNatClampNeg) ∧ M 42 (12 * (q + 1) + (nI x).toNatClampNeg) ≤ 9)) &&& j).testBit q = false ↔ ¬ (j.testBit q = true ∧ ¬ M 42 (12 * (q + 1) + x) ≤ 1)) := by
      intro q hq
      rw [Nat.testBit_and, bN_bit _ q hq, nI_clamp (show x < 2 ^ 31 by omega)]
      have h9 := hc (12 * (q + 1) + x) (by omega)
      have e2 : decide (2 ≤ M 42 (12 * (q + 1) + x) ∧ M 42 (12 * (q + 1) + x) ≤ 9) = decide (¬ M 42 (12 * (q + 1) + x) ≤ 1) := by
        apply decide_eq_decide.mpr
        unfold in9 at h9
        constructor
        · intro h q1
          have a := ib_le.mp h.1
          have b := ib_le.mp q1
          rw [show (2 : Int32).toInt = 2 from by decide] at a
          rw [ib_1] at b
          omega
        · intro h
          have a := ib_lt.mp (Int32.not_le.mp h)
          rw [ib_1] at a
          exact ⟨ib_le.mpr (by rw [show (2 : Int32).toInt = 2 from by decide]; omega), ib_le.mpr (by rw [show (9 : Int32).toInt = 9 from by decide]; omega)⟩
      rw [e2]
      cases j.testBit q
      · simp
      · simp
    by_cases c1 : ∀ q, q < 5 → ¬ (j.testBit q = true ∧ ¬ M 42 (12 * (q + 1) + x) ≤ 1)
    · rw [if_pos c1]
      exact ⟨fun _ => rfl, fun _ q hq => (e q hq).mpr (c1 q hq)⟩
    · rw [if_neg c1]
      exact ⟨fun h => absurd (fun q hq => (e q hq).mp (h q hq)) c1, fun h => absurd h (by decide)⟩
  · rw [if_neg c0, if_neg c0]
    refine ⟨fun _ => rfl, fun _ => ?_⟩
    have := and32 0 (by decide) j hj
    rw [Nat.zero_and] at this
    exact this
theorem pc5_b {c : Nat → Int32} {i x v : Nat} (h : ∀ q, q < 5 → v.testBit q = decide (i.testBit q = true ∧ c (12 * (q + 1) + x) = 0)) : pc5 v = bzx c i x 5 := by
  unfold pc5
  rw [h 0 (by decide), h 1 (by decide), h 2 (by decide), h 3 (by decide), h 4 (by decide)]
  simp only [bzx, decide_eq_true_eq]
  omega
theorem tk_b {F : Nat → Int32} {M : Nat → Nat → Int32} (hc : ∀ y, y < 72 → in9 (M 42 y)) {x i : Nat} (hx : x < 12) (hi : i < 32) :
    (if (s_X11_bitsOf ((L_ph F M (nI x) 0 0 5) &&& (nI (2 * i)))) < (if 0 < (((M 42) (nI x).toNatClampNeg) - 1) then (((M 42) (nI x).toNatClampNeg) - 1) else 0) then (s_X11_bitsOf ((L_ph F M (nI x) 0 0 5) &&& (nI (2 * i)))) else (if 0 < (((M 42) (nI x).toNatClampNeg) - 1) then (((M 42) (nI x).toNatClampNeg) - 1) else 0)).toInt = tkx (M 42) i x := by
  have e0 : (nI x).toNatClampNeg = x := nI_clamp (show x < 2 ^ 31 by omega)
  have h9 := hc x (by omega)
  have es : (if 0 < M 42 x - 1 then M 42 x - 1 else 0) = lyD (M 42) x := by
    unfold lyD
    unfold in9 at h9
    have m1 := gb_m1 (x := M 42 x) (by omega)
    by_cases c1 : M 42 x ≤ 1
    · rw [if_pos c1]
      have a := ib_le.mp c1
      rw [ib_1] at a
      rw [if_neg (fun q => by have b := ib_lt.mp q; rw [ib_0, m1] at b; omega)]
    · rw [if_neg c1]
      have a := ib_lt.mp (Int32.not_le.mp c1)
      rw [ib_1] at a
      rw [if_pos (ib_lt.mpr (by rw [ib_0, m1]; omega))]
  have eb : s_X11_bitsOf ((L_ph F M (nI x) 0 0 5) &&& (nI (2 * i))) = nI (bzx (M 42) i x 5) := by
    rw [ph_N, phN_v, and32 _ (bN_lt _) i hi, bits32 _ (and_lt32 (bN_lt _))]
    rw [pc5_b (c := M 42) (i := i) (x := x)]
    intro q hq
    rw [Nat.testBit_and, bN_bit _ q hq, e0]
    have e2 : decide (0 ≤ M 42 (12 * (q + 1) + x) ∧ M 42 (12 * (q + 1) + x) ≤ 0) = decide (M 42 (12 * (q + 1) + x) = 0) := by
      apply decide_eq_decide.mpr
      constructor
      · intro h; exact Int32.le_antisymm h.2 h.1
      · intro h; rw [h]; decide
    rw [e2]
    cases i.testBit q
    · simp
    · simp
  rw [e0, es, eb]
  have hb : bzx (M 42) i x 5 ≤ 5 := by
    simp only [bzx]
    repeat' split
    all_goals omega
  unfold tkx
  by_cases c2 : nI (bzx (M 42) i x 5) < lyD (M 42) x
  · rw [if_pos c2]
    have a := ib_lt.mp c2
    rw [nI_toInt (by omega)] at a ⊢
    omega
  · rw [if_neg c2]
    have a := ib_le.mp (Int32.not_lt.mp c2)
    rw [nI_toInt (by omega)] at a
    omega
theorem wn_at {F : Nat → Int32} {M : Nat → Nat → Int32} (p : Int32) (z0 z1 : Nat → Int32) (k : Nat) : ∀ n, (L_wn F M p z0 z1 n).1 (2 * k) = (if k < n then (if (wnG F M p) &&& (nI (2 * k)) = 0 then z0 (2 * k) else z0 (2 * k) + 1) else z0 (2 * k)) ∧ (L_wn F M p z0 z1 n).2 (2 * k) = (if k < n then z1 (2 * k) + (if (s_X11_bitsOf ((L_ph F M p 0 0 5) &&& (nI (2 * k)))) < (if 0 < (((M 42) p.toNatClampNeg) - 1) then (((M 42) p.toNatClampNeg) - 1) else 0) then (s_X11_bitsOf ((L_ph F M p 0 0 5) &&& (nI (2 * k)))) else (if 0 < (((M 42) p.toNatClampNeg) - 1) then (((M 42) p.toNatClampNeg) - 1) else 0)) else z1 (2 * k)) := by
  intro n
  induction n with
  | zero => rw [if_neg (Nat.not_lt_zero k), if_neg (Nat.not_lt_zero k)]; exact ⟨rfl, rfl⟩
  | succ n ih =>
    rw [L_wn]
    generalize L_wn F M p z0 z1 n = G at ih ⊢
    obtain ⟨g0, g1⟩ := G
    simp only at ih ⊢
    by_cases ck : k = n
    · subst ck
      rw [if_neg (Nat.lt_irrefl k), if_neg (Nat.lt_irrefl k)] at ih
      rw [if_pos (Nat.lt_succ_self k), if_pos (Nat.lt_succ_self k)]
      by_cases c1 : (wnG F M p) &&& (nI (2 * k)) = 0
      · rw [if_pos c1, if_pos c1]
        simp only
        rw [up_at, ih.1, ih.2]
        exact ⟨rfl, rfl⟩
      · rw [if_neg c1, if_neg c1]
        simp only
        rw [up_at, up_at, ih.1, ih.2]
        exact ⟨rfl, rfl⟩
    · have hne : ¬ 2 * k = 2 * n := by omega
      have hlt : (k < n + 1) = (k < n) := propext ⟨fun h => by omega, fun h => by omega⟩
      simp only [hlt]
      by_cases c1 : (wnG F M p) &&& (nI (2 * n)) = 0
      · rw [if_pos c1]
        simp only
        rw [up_ne hne]
        exact ih
      · rw [if_neg c1]
        simp only
        rw [up_ne hne, up_ne hne]
        exact ih
theorem wg1_at {F : Nat → Int32} {M : Nat → Nat → Int32} (z0 z1 : Nat → Int32) (k : Nat) : ∀ n, k < n → (L_wg1 F M z0 z1 n).1 (2 * k) = 0 ∧ (L_wg1 F M z0 z1 n).2 (2 * k) = 0 := by
  intro n
  induction n with
  | zero => intro h; omega
  | succ n ih =>
    intro h
    rw [L_wg1]
    simp only
    by_cases ck : k = n
    · subst ck; rw [up_at, up_at]; exact ⟨rfl, rfl⟩
    · rw [up_ne (by omega), up_ne (by omega)]; exact ih (by omega)
noncomputable def gsm (c : Nat → Int32) (j : Nat) : Nat → Int
  | 0 => 0
  | x + 1 => gsm c j x + gvx c j x
def tsm (c : Nat → Int32) (i : Nat) : Nat → Int
  | 0 => 0
  | x + 1 => tsm c i x + tkx c i x
theorem gvx_01 (c : Nat → Int32) (j x : Nat) : gvx c j x = 0 ∨ gvx c j x = 1 := by
  unfold gvx
  by_cases c0 : c x = 0
  · rw [if_pos c0]
    by_cases c1 : ∀ q, q < 5 → ¬ (j.testBit q = true ∧ ¬ c (12 * (q + 1) + x) ≤ 1)
    · rw [if_pos c1]; exact Or.inl rfl
    · rw [if_neg c1]; exact Or.inr rfl
  · rw [if_neg c0]; exact Or.inl rfl
theorem tkx_9 {c : Nat → Int32} {i x : Nat} (h : in9 (c x)) : 0 ≤ tkx c i x ∧ tkx c i x ≤ 9 := by
  have := lyD_9 h
  unfold in9 at this
  unfold tkx
  omega
theorem wg2_at {F : Nat → Int32} {M : Nat → Nat → Int32} (hc : ∀ y, y < 72 → in9 (M 42 y)) (z0 z1 : Nat → Int32) {k : Nat} (hk : k < 32) (h0 : z0 (2 * k) = 0) (h1 : z1 (2 * k) = 0) : ∀ n, n ≤ 12 → ((L_wg2 F M z0 z1 n).1 (2 * k)).toInt = gsm (M 42) k n ∧ ((L_wg2 F M z0 z1 n).2 (2 * k)).toInt = tsm (M 42) k n ∧ 0 ≤ gsm (M 42) k n ∧ gsm (M 42) k n ≤ n ∧ 0 ≤ tsm (M 42) k n ∧ tsm (M 42) k n ≤ 9 * (n : Int) := by
  intro n
  induction n with
  | zero =>
    intro _
    refine ⟨?_, ?_, Int.le_refl 0, Int.le_refl 0, Int.le_refl 0, Int.le_refl 0⟩
    · show (z0 (2 * k)).toInt = 0; rw [h0]; rfl
    · show (z1 (2 * k)).toInt = 0; rw [h1]; rfl
  | succ n ih =>
    intro hn
    obtain ⟨a1, a2, a3, a4, a5, a6⟩ := ih (by omega)
    rw [L_wg2]
    simp only
    have w := wn_at (F := F) (M := M) (nI n) (L_wg2 F M z0 z1 n).1 (L_wg2 F M z0 z1 n).2 k n32
    rw [if_pos (show k < n32 by rw [n32_eq]; exact hk), if_pos (show k < n32 by rw [n32_eq]; exact hk)] at w
    rw [w.1, w.2, gsm, tsm]
    have hz := wnG_z (F := F) hc (x := n) (j := k) (by omega) hk
    have ht := tk_b (F := F) hc (x := n) (i := k) (by omega) hk
    have h9 := tkx_9 (i := k) (hc n (by omega))
    have g01 := gvx_01 (M 42) k n
    refine ⟨?_, ?_, by omega, by omega, by omega, by omega⟩
    · by_cases c1 : (wnG F M (nI n)) &&& (nI (2 * k)) = 0
      · rw [if_pos c1, a1, hz.mp c1]; omega
      · rw [if_neg c1, gb_p1 (by omega), a1]
        have : ¬ gvx (M 42) k n = 0 := fun q => c1 (hz.mpr q)
        omega
    · rw [ib_add (by rw [a2, ht]; omega) (by rw [a2, ht]; omega), a2, ht]
/- the same by the cheapest cut -/
theorem cA_ge (c : Nat → Int32) (p : Int32) (x : Nat) (T : Nat → Bool) : ∀ n, 0 ≤ cA c p x T n ∧ (cA c p x T n = 0 ↔ ∀ q, q < n → ¬ (T q = false ∧ lyA c p x q = 1)) := by
  intro n
  induction n with
  | zero => exact ⟨Int.le_refl 0, fun _ q h => by omega, fun _ => rfl⟩
  | succ n ih =>
    rw [cA]
    have h01 := lyA_9 c p x n
    have e : wI (!T n) (lyA c p x n) = if T n = false ∧ lyA c p x n = 1 then 1 else 0 := by
      unfold wI
      rcases h01 with h | h <;> rw [h] <;> cases T n <;> decide
    rw [e]
    by_cases c1 : T n = false ∧ lyA c p x n = 1
    · rw [if_pos c1]
      exact ⟨by omega, fun h => by omega, fun h => absurd c1 (h n (Nat.lt_succ_self n))⟩
    · rw [if_neg c1]
      refine ⟨by omega, fun h q hq => ?_, fun h => ?_⟩
      · by_cases cq : q = n
        · subst cq; exact c1
        · exact (ih.2.mp (by omega)) q (by omega)
      · have := ih.2.mpr (fun q hq => h q (by omega))
        omega
theorem gv_eq {c : Nat → Int32} {k i x : Nat} (hk : k < 32) (hi : i < 32) : min (lyE c x).toInt (cA c (nI (2 * k)) x (fun q => i.testBit q) 5) = gvx c (k &&& (31 ^^^ i)) x := by
  have h := cA_ge c (nI (2 * k)) x (fun q => i.testBit q) 5
  have hA : ∀ q, q < 5 → (lyA c (nI (2 * k)) x q = 1 ↔ (k.testBit q = true ∧ ¬ c (12 * (q + 1) + x) ≤ 1)) := by
    intro q hq
    unfold lyA
    by_cases c1 : (((nI (2 * k)) >>> ((nI (q + 1)) &&& 31)) &&& 1) = 1
    · rw [if_pos c1]
      have b := (bit32 k hk q hq).mp c1
      by_cases c2 : c (12 * (q + 1) + x) ≤ 1
      · rw [if_pos c2]; exact ⟨fun q => absurd q (by decide), fun q => absurd c2 q.2⟩
      · rw [if_neg c2]; exact ⟨fun _ => ⟨b, c2⟩, fun _ => rfl⟩
    · rw [if_neg c1]
      exact ⟨fun q => absurd q (by decide), fun z => absurd ((bit32 k hk q hq).mpr z.1) c1⟩
  have hz : (cA c (nI (2 * k)) x (fun q => i.testBit q) 5 = 0) ↔ ∀ q, q < 5 → ¬ ((k &&& (31 ^^^ i)).testBit q = true ∧ ¬ c (12 * (q + 1) + x) ≤ 1) := by
    rw [h.2]
    constructor
    · intro g q hq z
      rw [dbit k hk i hi q hq] at z
      simp only [Bool.and_eq_true, Bool.not_eq_true'] at z
      exact g q hq ⟨z.1.2, (hA q hq).mpr ⟨z.1.1, z.2⟩⟩
    · intro g q hq z
      have z2 := (hA q hq).mp z.2
      exact g q hq ⟨by rw [dbit k hk i hi q hq]; simp only [Bool.and_eq_true, Bool.not_eq_true']; exact ⟨z2.1, z.1⟩, z2.2⟩
  unfold gvx lyE
  by_cases c0 : c x = 0
  · rw [if_pos c0, if_pos c0, ib_1]
    by_cases c1 : ∀ q, q < 5 → ¬ ((k &&& (31 ^^^ i)).testBit q = true ∧ ¬ c (12 * (q + 1) + x) ≤ 1)
    · rw [if_pos c1, hz.mpr c1]; rfl
    · rw [if_neg c1]
      have : ¬ cA c (nI (2 * k)) x (fun q => i.testBit q) 5 = 0 := fun q => c1 (hz.mp q)
      omega
  · rw [if_neg c0, if_neg c0, ib_0]
    omega
theorem tk_eq {c : Nat → Int32} {k i x : Nat} (hk : k < 32) (hi : i < 32) (hs : i &&& k = i) : min (lyD c x).toInt (cB c (nI (2 * k)) x (fun q => i.testBit q) 5) = tkx c i x := by
  have e : ∀ n, n ≤ 5 → cB c (nI (2 * k)) x (fun q => i.testBit q) n = (bzx c i x n : Nat) := by
    intro n
    induction n with
    | zero => intro _; rfl
    | succ n ih =>
      intro hn
      rw [cB, bzx, ih (by omega)]
      have e2 : wI (i.testBit n) (lyB c (nI (2 * k)) x n) = ((if i.testBit n = true ∧ c (12 * (n + 1) + x) = 0 then 1 else 0 : Nat) : Int) := by
        unfold wI
        by_cases c1 : i.testBit n = true
        · rw [if_pos c1]
          unfold lyB
          rw [if_pos ((bit32 k hk n (by omega)).mpr (subq i hi k hk hs n (by omega) c1))]
          by_cases c2 : c (12 * (n + 1) + x) = 0
          · rw [if_pos c2, if_pos ⟨c1, c2⟩]; rfl
          · rw [if_neg c2, if_neg (fun q => c2 q.2)]; rfl
        · rw [if_neg c1, if_neg (fun q => c1 q.1)]; rfl
      rw [e2]
      omega
  unfold tkx
  rw [e 5 (Nat.le_refl 5)]
theorem fT_eq {c : Nat → Int32} {k i : Nat} (hk : k < 32) (hi : i < 32) (hs : i &&& k = i) : ∀ n, fT c (nI (2 * k)) (fun q => i.testBit q) n = gsm c (k &&& (31 ^^^ i)) n + tsm c i n := by
  intro n
  induction n with
  | zero => rfl
  | succ n ih =>
    rw [fT, gsm, tsm, ih, gv_eq hk hi, tk_eq hk hi hs]
    omega
/-- a set of partners counts by those who are asked -/
theorem fT_cut {c : Nat → Int32} {k : Nat} (hk : k < 32) (T : Nat → Bool) : ∀ n, fT c (nI (2 * k)) (fun q => (bN (fun q => T q && k.testBit q)).testBit q) n = fT c (nI (2 * k)) T n := by
  intro n
  induction n with
  | zero => rfl
  | succ n ih =>
    have hT : ∀ q, q < 5 → (bN (fun q => T q && k.testBit q)).testBit q = (T q && k.testBit q) := fun q hq => bN_bit _ q hq
    have eA : ∀ m, m ≤ 5 → cA c (nI (2 * k)) n (fun q => (bN (fun q => T q && k.testBit q)).testBit q) m = cA c (nI (2 * k)) n T m := by
      intro m
      induction m with
      | zero => intro _; rfl
      | succ m ihm =>
        intro hm
        rw [cA, cA, ihm (by omega), hT m (by omega)]
        cases hb : k.testBit m
        · have z : lyA c (nI (2 * k)) n m = 0 := by
            unfold lyA
            rw [if_neg (fun q => by have := (bit32 k hk m (by omega)).mp q; rw [hb] at this; exact absurd this (by decide))]
          rw [z]; unfold wI; cases T m <;> rfl
        · rw [Bool.and_true]
    have eB : ∀ m, m ≤ 5 → cB c (nI (2 * k)) n (fun q => (bN (fun q => T q && k.testBit q)).testBit q) m = cB c (nI (2 * k)) n T m := by
      intro m
      induction m with
      | zero => intro _; rfl
      | succ m ihm =>
        intro hm
        rw [cB, cB, ihm (by omega), hT m (by omega)]
        cases hb : k.testBit m
        · have z : lyB c (nI (2 * k)) n m = 0 := by
            unfold lyB
            rw [if_neg (fun q => by have := (bit32 k hk m (by omega)).mp q; rw [hb] at this; exact absurd this (by decide))]
          rw [z]; unfold wI; cases T m <;> rfl
        · rw [Bool.and_true]
    rw [fT, fT, ih, eA 5 (Nat.le_refl 5), eB 5 (Nat.le_refl 5)]
theorem gsm_b (c : Nat → Int32) (j : Nat) : ∀ n : Nat, 0 ≤ gsm c j n ∧ gsm c j n ≤ n := by
  intro n
  induction n with
  | zero => exact ⟨Int.le_refl 0, Int.le_refl 0⟩
  | succ n ih => rw [gsm]; have := gvx_01 c j n; omega
theorem tsm_0 {c : Nat → Int32} (hc : ∀ y, y < 72 → in9 (c y)) : ∀ n : Nat, n ≤ 12 → tsm c 0 n = 0 := by
  intro n
  induction n with
  | zero => intro _; rfl
  | succ n ih =>
    intro hn
    rw [tsm, ih (by omega)]
    have h := lyD_9 (hc n (by omega))
    unfold in9 at h
    unfold tkx
    have e : bzx c 0 n 5 = 0 := by simp [bzx]
    rw [e]
    omega
theorem cm_at {F : Nat → Int32} {M Y : Nat → Nat → Int32} (hc : ∀ y, y < 72 → in9 (M 42 y)) {k : Nat} (hk : k < 32) (hY : ∀ i, i < 32 → (Y 0 (2 * i)).toInt = gsm (M 42) i 12 ∧ (Y 1 (2 * i)).toInt = tsm (M 42) i 12 ∧ 0 ≤ tsm (M 42) i 12 ∧ tsm (M 42) i 12 ≤ 108) :
    ∀ n, n ≤ 32 → (L_cm F M Y (nI (2 * k)) n).toInt ≤ 12 ∧ (∀ i, i < n → i &&& k = i → (L_cm F M Y (nI (2 * k)) n).toInt ≤ fT (M 42) (nI (2 * k)) (fun q => i.testBit q) 12) ∧ ((L_cm F M Y (nI (2 * k)) n).toInt = 12 ∨ ∃ i, i < n ∧ i &&& k = i ∧ (L_cm F M Y (nI (2 * k)) n).toInt = fT (M 42) (nI (2 * k)) (fun q => i.testBit q) 12) := by
  intro n
  induction n with
  | zero => intro _; exact ⟨by show (12 : Int32).toInt ≤ 12; decide, fun i h => by omega, Or.inl (by show (12 : Int32).toInt = 12; decide)⟩
  | succ n ih =>
    intro hn
    obtain ⟨a0, a1, a2⟩ := ih (by omega)
    rw [L_cm]
    generalize L_cm F M Y (nI (2 * k)) n = G at a0 a1 a2 ⊢
    by_cases c1 : (nI (2 * n)) &&& ((nI (2 * k)) ^^^ (-1)) = 0
    · rw [if_pos c1]
      have hs := (sub32 n (by omega) k hk).mp c1
      have ei : (nI (2 * k) &&& (nI (2 * n) ^^^ (-1))).toNatClampNeg = 2 * (k &&& (31 ^^^ n)) := by
        have := dlt k hk n (by omega)
        rw [dif32 n (by omega) k hk, nI_clamp (by omega)]
      rw [ei]
      have hd := dlt k hk n (by omega)
      have y0 := (hY _ hd).1
      have y1 := (hY n (by omega)).2
      have gb := gsm_b (M 42) (k &&& (31 ^^^ n)) 12
      have ev : ((Y 1) (2 * n) + (Y 0) (2 * (k &&& (31 ^^^ n)))).toInt = fT (M 42) (nI (2 * k)) (fun q => n.testBit q) 12 := by
        rw [ib_add (by rw [y0, y1.1]; omega) (by rw [y0, y1.1]; omega), y0, y1.1, fT_eq hk (by omega) hs]
        omega
      generalize (Y 1) (2 * n) + (Y 0) (2 * (k &&& (31 ^^^ n))) = V at ev ⊢
      by_cases c2 : V < G
      · rw [if_pos c2]
        have := ib_lt.mp c2
        refine ⟨by omega, fun i hi q => ?_, Or.inr ⟨n, Nat.lt_succ_self n, hs, ev⟩⟩
        by_cases ci : i = n
        · subst ci; omega
        · have := a1 i (by omega) q; omega
      · rw [if_neg c2]
        have := ib_le.mp (Int32.not_lt.mp c2)
        refine ⟨a0, fun i hi q => ?_, ?_⟩
        · by_cases ci : i = n
          · subst ci; omega
          · exact a1 i (by omega) q
        · rcases a2 with a2 | ⟨i, b1, b2, b3⟩
          · exact Or.inl a2
          · exact Or.inr ⟨i, by omega, b2, b3⟩
    · rw [if_neg c1]
      refine ⟨a0, fun i hi q => ?_, ?_⟩
      · by_cases ci : i = n
        · subst ci; exact absurd ((sub32 i (by omega) k hk).mpr q) c1
        · exact a1 i (by omega) q
      · rcases a2 with a2 | ⟨i, b1, b2, b3⟩
        · exact Or.inl a2
        · exact Or.inr ⟨i, by omega, b2, b3⟩
theorem cmg_eq {F : Nat → Int32} {M Y : Nat → Nat → Int32} (hc : ∀ y, y < 72 → in9 (M 42 y)) {k : Nat} (hk : k < 32) : L_cm F M (wgY F M Y) (nI (2 * k)) n32 = nI (gN F M (nI (2 * k))) := by
  rw [n32_eq]
  have hY : ∀ i, i < 32 → (wgY F M Y 0 (2 * i)).toInt = gsm (M 42) i 12 ∧ (wgY F M Y 1 (2 * i)).toInt = tsm (M 42) i 12 ∧ 0 ≤ tsm (M 42) i 12 ∧ tsm (M 42) i 12 ≤ 108 := by
    intro i hi
    have w1 := wg1_at (F := F) (M := M) (Y 0) (Y 1) i n32 (by rw [n32_eq]; exact hi)
    have w := wg2_at (F := F) hc (L_wg1 F M (Y 0) (Y 1) n32).1 (L_wg1 F M (Y 0) (Y 1) n32).2 hi w1.1 w1.2 12 (Nat.le_refl 12)
    exact ⟨w.1, w.2.1, w.2.2.2.2.1, by have := w.2.2.2.2.2; omega⟩
  obtain ⟨a0, a1, a2⟩ := cm_at (F := F) hc hk hY 32 (Nat.le_refl 32)
  have hv := ms_val (F := F) (M := M) (fun x hx => hc x (by omega)) (nI (2 * k))
  obtain ⟨⟨T, t1⟩, t2⟩ := hv
  have hb := bN_lt (fun q => T q && k.testBit q)
  have hsub : (bN (fun q => T q && k.testBit q)) &&& k = bN (fun q => T q && k.testBit q) := by
    apply subof _ hb k hk
    intro q hq h
    rw [bN_bit _ q hq] at h
    simp only [Bool.and_eq_true] at h
    exact h.2
  have u1 := a1 _ hb hsub
  rw [fT_cut hk T 12] at u1
  have z : fT (M 42) (nI (2 * k)) (fun q => (0 : Nat).testBit q) 12 ≤ 12 := by
    rw [fT_eq hk (by decide) (Nat.zero_and k), tsm_0 hc 12 (Nat.le_refl 12)]
    have := gsm_b (M 42) (k &&& (31 ^^^ 0)) 12
    omega
  have n12 := t2 (fun q => (0 : Nat).testBit q)
  apply ib_eq.mpr
  rw [nI_toInt (by omega)]
  rcases a2 with a2 | ⟨i, b1, b2, b3⟩
  · omega
  · have := t2 (fun q => i.testBit q)
    omega
