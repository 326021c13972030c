theorem and_w (x y w : Nat) : x &&& y = 2 ^ w * (x / 2 ^ w &&& y / 2 ^ w) + (x % 2 ^ w &&& y % 2 ^ w) := by
  rw [← Nat.and_div_two_pow, ← Nat.and_mod_two_pow, Nat.div_add_mod]
def mk1 : Nat → Nat
  | 0 => 0
  | k + 1 => 4 * mk1 k + 1
def mk2 : Nat → Nat
  | 0 => 0
  | k + 1 => 16 * mk2 k + 3
def mk4 : Nat → Nat
  | 0 => 0
  | k + 1 => 256 * mk4 k + 15
def D1 : Nat → Nat → Nat
  | 0, _ => 0
  | k + 1, n => 4 * D1 k (n / 4) + (n % 2 + n / 2 % 2)
def D2 : Nat → Nat → Nat
  | 0, _ => 0
  | k + 1, n => 16 * D2 k (n / 16) + (n % 2 + n / 2 % 2 + n / 4 % 2 + n / 8 % 2)
def D3 : Nat → Nat → Nat
  | 0, _ => 0
  | k + 1, n => 256 * D3 k (n / 256) + (n % 2 + n / 2 % 2 + n / 4 % 2 + n / 8 % 2 + n / 16 % 2 + n / 32 % 2 + n / 64 % 2 + n / 128 % 2)
theorem st1 : ∀ k n, n < 4 ^ k → (n / 2 &&& mk1 k) ≤ n ∧ n - (n / 2 &&& mk1 k) = D1 k n := by
  intro k
  induction k with
  | zero =>
    intro n h
    have : n = 0 := by rw [Nat.pow_zero] at h; omega
    subst this
    exact ⟨Nat.le_refl 0, rfl⟩
  | succ k ih =>
    intro n h
    have h4 : n / 4 < 4 ^ k := by rw [Nat.pow_succ] at h; omega
    have i := ih (n / 4) h4
    have e := and_w (n / 2) (mk1 (k + 1)) 2
    rw [show (2 : Nat) ^ 2 = 4 from rfl, mk1, show n / 2 / 4 = n / 4 / 2 by omega, show (4 * mk1 k + 1) / 4 = mk1 k by omega, show (4 * mk1 k + 1) % 4 = 1 by omega, Nat.and_one_is_mod] at e
    rw [mk1, e, D1, ← i.2]
    have i1 := i.1
    generalize (n / 4 / 2 &&& mk1 k) = a at i1
    omega
theorem and3 (x : Nat) : x &&& 3 = x % 4 := Nat.and_two_pow_sub_one_eq_mod x 2
theorem and15 (x : Nat) : x &&& 15 = x % 16 := Nat.and_two_pow_sub_one_eq_mod x 4
theorem and63 (x : Nat) : x &&& 63 = x % 64 := Nat.and_two_pow_sub_one_eq_mod x 6
theorem st2 : ∀ k n, (D1 (2 * k) n &&& mk2 k) + (D1 (2 * k) n / 4 &&& mk2 k) = D2 k n := by
  intro k
  induction k with
  | zero => intro n; simp [D1, mk2, D2]
  | succ k ih =>
    intro n
    have i := ih (n / 16)
    rw [show 2 * (k + 1) = 2 * k + 1 + 1 by omega, D1, D1, D2, ← i, show n / 4 / 4 = n / 16 by omega]
    generalize D1 (2 * k) (n / 16) = Y
    rw [show n % 2 + n / 2 % 2 + n / 4 % 2 + n / 8 % 2 = (n % 2 + n / 2 % 2) + (n / 4 % 2 + n / 4 / 2 % 2) by rw [show n / 4 / 2 = n / 8 by omega]; omega]
    have b0 : n % 2 + n / 2 % 2 ≤ 2 := by omega
    have b1 : n / 4 % 2 + n / 4 / 2 % 2 ≤ 2 := by omega
    generalize n % 2 + n / 2 % 2 = p0 at b0
    generalize n / 4 % 2 + n / 4 / 2 % 2 = p1 at b1
    have e1 := and_w (4 * (4 * Y + p1) + p0) (mk2 (k + 1)) 4
    have e2 := and_w ((4 * (4 * Y + p1) + p0) / 4) (mk2 (k + 1)) 4
    rw [show (2 : Nat) ^ 4 = 16 from rfl, mk2, show (16 * mk2 k + 3) / 16 = mk2 k by omega, show (16 * mk2 k + 3) % 16 = 3 by omega, and3] at e1 e2
    rw [show (4 * (4 * Y + p1) + p0) / 16 = Y by omega, show (4 * (4 * Y + p1) + p0) % 16 % 4 = p0 by omega] at e1
    rw [show (4 * (4 * Y + p1) + p0) / 4 / 16 = Y / 4 by omega, show (4 * (4 * Y + p1) + p0) / 4 % 16 % 4 = p1 by omega] at e2
    rw [mk2, e1, e2]
    generalize (Y &&& mk2 k) = a
    generalize (Y / 4 &&& mk2 k) = b
    clear e1 e2 i ih
    omega
theorem D2_m : ∀ k n, D2 k n % 16 ≤ 4 := by
  intro k n
  cases k with
  | zero => exact Nat.zero_le 4
  | succ k =>
    rw [D2]
    have b : n % 2 + n / 2 % 2 + n / 4 % 2 + n / 8 % 2 ≤ 4 := by omega
    generalize n % 2 + n / 2 % 2 + n / 4 % 2 + n / 8 % 2 = q at b
    generalize D2 k (n / 16) = y
    omega
theorem st3 : ∀ k n, ((D2 (2 * k) n + D2 (2 * k) n / 16) &&& mk4 k) = D3 k n := by
  intro k
  induction k with
  | zero => intro n; simp [D2, mk4, D3]
  | succ k ih =>
    intro n
    have i := ih (n / 256)
    have hm := D2_m (2 * k) (n / 256)
    rw [show 2 * (k + 1) = 2 * k + 1 + 1 by omega, D2, D2, D3, ← i, show n / 16 / 16 = n / 256 by omega]
    generalize D2 (2 * k) (n / 256) = W at hm
    have q1 : n / 16 % 2 + n / 16 / 2 % 2 + n / 16 / 4 % 2 + n / 16 / 8 % 2 = n / 16 % 2 + n / 32 % 2 + n / 64 % 2 + n / 128 % 2 := by
      rw [show n / 16 / 2 = n / 32 by omega, show n / 16 / 4 = n / 64 by omega, show n / 16 / 8 = n / 128 by omega]
    rw [q1]
    have b1 : n / 16 % 2 + n / 32 % 2 + n / 64 % 2 + n / 128 % 2 ≤ 4 := by omega
    have b0 : n % 2 + n / 2 % 2 + n / 4 % 2 + n / 8 % 2 ≤ 4 := by omega
    rw [show n % 2 + n / 2 % 2 + n / 4 % 2 + n / 8 % 2 + n / 16 % 2 + n / 32 % 2 + n / 64 % 2 + n / 128 % 2 = (n % 2 + n / 2 % 2 + n / 4 % 2 + n / 8 % 2) + (n / 16 % 2 + n / 32 % 2 + n / 64 % 2 + n / 128 % 2) by ac_rfl]
    generalize n / 16 % 2 + n / 32 % 2 + n / 64 % 2 + n / 128 % 2 = q1 at b1
    generalize n % 2 + n / 2 % 2 + n / 4 % 2 + n / 8 % 2 = q0 at b0
    have e1 := and_w (16 * (16 * W + q1) + q0 + (16 * (16 * W + q1) + q0) / 16) (mk4 (k + 1)) 8
    rw [show (2 : Nat) ^ 8 = 256 from rfl, mk4, show (256 * mk4 k + 15) / 256 = mk4 k by omega, show (256 * mk4 k + 15) % 256 = 15 by omega, and15, show (16 * (16 * W + q1) + q0 + (16 * (16 * W + q1) + q0) / 16) / 256 = W + W / 16 by omega, show (16 * (16 * W + q1) + q0 + (16 * (16 * W + q1) + q0) / 16) % 256 % 16 = q0 + q1 by omega] at e1
    rw [mk4, e1]
theorem iA (a b : Nat) : nI a &&& nI b = nI (a &&& b) := by
  apply Int32.toBitVec_inj.mp
  rw [Int32.toBitVec_and]
  exact BitVec.ofNat_and.symm
theorem iS {a b : Nat} (h : b ≤ a) : nI a - nI b = nI (a - b) := by
  have e : nI a = nI (a - b) + nI b := by rw [nI_add, Nat.sub_add_cancel h]
  rw [e, Int32.add_sub_cancel]
theorem iR {a k : Nat} {sh : Int32} (ha : a < 2 ^ 31) (hs : ((sh.toUInt32 &&& Int32.toUInt32 31).toBitVec % 32).toNat = k) : ((nI a).toUInt32 >>> (sh.toUInt32 &&& Int32.toUInt32 31)).toInt32 = nI (a / 2 ^ k) := by
  apply Int32.toBitVec_inj.mp
  show (BitVec.ofNat 32 a) >>> ((sh.toUInt32 &&& Int32.toUInt32 31).toBitVec % 32) = BitVec.ofNat 32 (a / 2 ^ k)
  apply BitVec.eq_of_toNat_eq
  rw [BitVec.ushiftRight_eq', BitVec.toNat_ushiftRight, hs, BitVec.toNat_ofNat, BitVec.toNat_ofNat, Nat.shiftRight_eq_div_pow, Nat.mod_eq_of_lt (show a < 2 ^ 32 by omega)]
  have : a / 2 ^ k ≤ a := Nat.div_le_self a _
  rw [Nat.mod_eq_of_lt (show a / 2 ^ k < 2 ^ 32 by omega)]
theorem iB {n i : Nat} (hn : n < 2 ^ 31) (hi : i < 31) : ((nI n >>> ((nI i) &&& 31)) &&& 1) = nI (n / 2 ^ i % 2) := by
  have hs : ∀ i, i < 31 → ((nI i &&& 31).toBitVec.smod 32).toNat = i := by decide +kernel
  have e : nI n >>> ((nI i) &&& 31) = nI (n / 2 ^ i) := by
    apply Int32.toBitVec_inj.mp
    rw [Int32.toBitVec_shiftRight]
    show (BitVec.ofNat 32 n).sshiftRight ((nI i &&& 31).toBitVec.smod 32).toNat = BitVec.ofNat 32 (n / 2 ^ i)
    rw [hs i hi, BitVec.sshiftRight_eq_of_msb_false]
    · apply BitVec.eq_of_toNat_eq
      rw [BitVec.toNat_ushiftRight, BitVec.toNat_ofNat, BitVec.toNat_ofNat, Nat.shiftRight_eq_div_pow, Nat.mod_eq_of_lt (show n < 2 ^ 32 by omega)]
      have : n / 2 ^ i ≤ n := Nat.div_le_self n _
      rw [Nat.mod_eq_of_lt (show n / 2 ^ i < 2 ^ 32 by omega)]
    · rw [BitVec.msb_eq_toInt]
      apply decide_eq_false
      show ¬ (nI n).toInt < 0
      rw [nI_toInt hn]
      omega
  rw [e, show (1 : Int32) = nI 1 from rfl, iA, Nat.and_one_is_mod]
def SB (n : Nat) : Nat → Nat
  | 0 => 0
  | j + 1 => SB n j + n / 2 ^ j % 2
theorem bo_SB {n : Nat} (hn : n < 2 ^ 31) : ∀ j, j ≤ 31 → L_bitsOf (nI n) j = nI (SB n j) := by
  intro j
  induction j with
  | zero => intro _; rfl
  | succ j ih => intro hj; rw [L_bitsOf, SB, ih (by omega), iB hn (by omega), nI_add]
def s1_ (x : Int32) : Int32 := x - (((x.toUInt32 >>> ((1 : Int32).toUInt32 &&& Int32.toUInt32 31)).toInt32) &&& (1431655765))
def s2_ (x : Int32) : Int32 := (x &&& (858993459)) + (((x.toUInt32 >>> ((2 : Int32).toUInt32 &&& Int32.toUInt32 31)).toInt32) &&& (858993459))
def s3_ (x : Int32) : Int32 := (x + ((x.toUInt32 >>> ((4 : Int32).toUInt32 &&& Int32.toUInt32 31)).toInt32)) &&& (252645135)
def s4_ (x : Int32) : Int32 := x + ((x.toUInt32 >>> ((8 : Int32).toUInt32 &&& Int32.toUInt32 31)).toInt32)
def s5_ (x : Int32) : Int32 := x + ((x.toUInt32 >>> ((16 : Int32).toUInt32 &&& Int32.toUInt32 31)).toInt32)
theorem bc_s (x : Int32) : s_J6_bitCount_0f7a4 x = s5_ (s4_ (s3_ (s2_ (s1_ x)))) &&& 63 := rfl
theorem D1_le : ∀ k n, n < 4 ^ k → D1 k n ≤ n := by
  intro k n h
  have := st1 k n h
  omega
theorem D2_le : ∀ k n, D2 k n ≤ n := by
  intro k
  induction k with
  | zero => intro n; exact Nat.zero_le n
  | succ k ih => intro n; rw [D2]; have := ih (n / 16); omega
theorem D3_le : ∀ k n, D3 k n ≤ n := by
  intro k
  induction k with
  | zero => intro n; exact Nat.zero_le n
  | succ k ih => intro n; rw [D3]; have := ih (n / 256); omega
theorem bc_eq {x : Int32} (h : 0 ≤ x) : s_J6_bitCount_0f7a4 x = s_X11_bitsOf x := by
  obtain ⟨n, hn, e⟩ := nI_of (Int32.not_lt.mpr h)
  subst e
  rw [bc_s]
  have k1 := st1 16 n (by omega)
  have l1 := D1_le 16 n (by omega)
  have l2 := D2_le 8 n
  have l3 := D3_le 4 n
  have e1 : s1_ (nI n) = nI (D1 16 n) := by
    unfold s1_
    rw [iR (k := 1) hn (by decide), show (1431655765 : Int32) = nI (mk1 16) from by decide, iA, show n / 2 ^ 1 = n / 2 from rfl, iS k1.1, k1.2]
  have e2 : s2_ (nI (D1 16 n)) = nI (D2 8 n) := by
    unfold s2_
    rw [iR (k := 2) (by omega) (by decide), show (858993459 : Int32) = nI (mk2 8) from by decide, iA, iA, nI_add]
    exact congrArg nI (st2 8 n)
  have e3 : s3_ (nI (D2 8 n)) = nI (D3 4 n) := by
    unfold s3_
    rw [iR (k := 4) (by omega) (by decide), show (252645135 : Int32) = nI (mk4 4) from by decide, nI_add, iA]
    exact congrArg nI (st3 4 n)
  have b3 : D3 4 n ≤ 134744072 := by
    simp only [D3]
    omega
  have e4 : s4_ (nI (D3 4 n)) = nI (D3 4 n + D3 4 n / 256) := by
    unfold s4_
    rw [iR (k := 8) (by omega) (by decide), nI_add]
  have e5 : s5_ (nI (D3 4 n + D3 4 n / 256)) = nI (D3 4 n + D3 4 n / 256 + (D3 4 n + D3 4 n / 256) / 65536) := by
    unfold s5_
    rw [iR (k := 16) (by omega) (by decide), nI_add]
  rw [e1, e2, e3, e4, e5, show (63 : Int32) = nI 63 from rfl, iA, and63]
  unfold s_X11_bitsOf
  rw [bo_SB hn 31 (Nat.le_refl 31)]
  refine congrArg nI ?_
  have h31 : n / 2147483648 % 2 = 0 := by omega
  simp only [D3, SB, Nat.div_div_eq_div_mul, Nat.reduceMul, Nat.reducePow, Nat.mul_zero, Nat.zero_add, Nat.div_one]
  have g0 : n % 2 + n / 2 % 2 + n / 4 % 2 + n / 8 % 2 + n / 16 % 2 + n / 32 % 2 + n / 64 % 2 + n / 128 % 2 ≤ 8 := by omega
  have g1 : n / 256 % 2 + n / 512 % 2 + n / 1024 % 2 + n / 2048 % 2 + n / 4096 % 2 + n / 8192 % 2 + n / 16384 % 2 + n / 32768 % 2 ≤ 8 := by omega
  have g2 : n / 65536 % 2 + n / 131072 % 2 + n / 262144 % 2 + n / 524288 % 2 + n / 1048576 % 2 + n / 2097152 % 2 + n / 4194304 % 2 + n / 8388608 % 2 ≤ 8 := by omega
  have g3 : n / 16777216 % 2 + n / 33554432 % 2 + n / 67108864 % 2 + n / 134217728 % 2 + n / 268435456 % 2 + n / 536870912 % 2 + n / 1073741824 % 2 ≤ 7 := by omega
  rw [h31, Nat.add_zero]
  have es : n % 2 + n / 2 % 2 + n / 4 % 2 + n / 8 % 2 + n / 16 % 2 + n / 32 % 2 + n / 64 % 2 + n / 128 % 2 + n / 256 % 2 + n / 512 % 2 + n / 1024 % 2 + n / 2048 % 2 + n / 4096 % 2 + n / 8192 % 2 + n / 16384 % 2 + n / 32768 % 2 + n / 65536 % 2 + n / 131072 % 2 + n / 262144 % 2 + n / 524288 % 2 + n / 1048576 % 2 + n / 2097152 % 2 + n / 4194304 % 2 + n / 8388608 % 2 + n / 16777216 % 2 + n / 33554432 % 2 + n / 67108864 % 2 + n / 134217728 % 2 + n / 268435456 % 2 + n / 536870912 % 2 + n / 1073741824 % 2 = (n % 2 + n / 2 % 2 + n / 4 % 2 + n / 8 % 2 + n / 16 % 2 + n / 32 % 2 + n / 64 % 2 + n / 128 % 2) + (n / 256 % 2 + n / 512 % 2 + n / 1024 % 2 + n / 2048 % 2 + n / 4096 % 2 + n / 8192 % 2 + n / 16384 % 2 + n / 32768 % 2) + (n / 65536 % 2 + n / 131072 % 2 + n / 262144 % 2 + n / 524288 % 2 + n / 1048576 % 2 + n / 2097152 % 2 + n / 4194304 % 2 + n / 8388608 % 2) + (n / 16777216 % 2 + n / 33554432 % 2 + n / 67108864 % 2 + n / 134217728 % 2 + n / 268435456 % 2 + n / 536870912 % 2 + n / 1073741824 % 2) := by
    simp only [Nat.add_assoc]
  rw [es]
  generalize n % 2 + n / 2 % 2 + n / 4 % 2 + n / 8 % 2 + n / 16 % 2 + n / 32 % 2 + n / 64 % 2 + n / 128 % 2 = h0 at g0
  generalize n / 256 % 2 + n / 512 % 2 + n / 1024 % 2 + n / 2048 % 2 + n / 4096 % 2 + n / 8192 % 2 + n / 16384 % 2 + n / 32768 % 2 = h1 at g1
  generalize n / 65536 % 2 + n / 131072 % 2 + n / 262144 % 2 + n / 524288 % 2 + n / 1048576 % 2 + n / 2097152 % 2 + n / 4194304 % 2 + n / 8388608 % 2 = h2 at g2
  generalize n / 16777216 % 2 + n / 33554432 % 2 + n / 67108864 % 2 + n / 134217728 % 2 + n / 268435456 % 2 + n / 536870912 % 2 + n / 1073741824 % 2 = h3 at g3
  clear h31 es l1 l2 l3 k1 b3 e1 e2 e3 e4 e5
  have w1 : (256 * (256 * (256 * h3 + h2) + h1) + h0) / 256 = 256 * (256 * h3 + h2) + h1 := by omega
  rw [w1]
  have w2 : (256 * (256 * (256 * h3 + h2) + h1) + h0 + (256 * (256 * h3 + h2) + h1)) / 65536 = 256 * h3 + h2 + h3 := by omega
  rw [w2]
  omega
