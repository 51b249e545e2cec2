/-! numbers: primes, powers, Fermat -/
def dk_pr (n : Nat) : Prop := 2 ≤ n ∧ ∀ d : Nat, 2 ≤ d → d < n → ¬ n % d = 0
theorem dk_pr_small {n : Nat} (h2 : 2 ≤ n) (h : ∀ d : Nat, 2 ≤ d → d * d ≤ n → ¬ n % d = 0) : dk_pr n := by
  refine ⟨h2, fun d hd hlt hm => ?_⟩
  obtain ⟨k, hkk⟩ : ∃ k, k = n / d := ⟨_, rfl⟩
  have hk : n = d * k := by
    have := Nat.div_add_mod n d
    rw [hkk]
    omega
  rcases Nat.lt_or_ge n (d * d) with hc | hc
  · have hkd : k < d := by
      rcases Nat.lt_or_ge k d with q | q
      · exact q
      · have := Nat.mul_le_mul_left d q
        omega
    have hk2 : 2 ≤ k := by
      rcases Nat.lt_or_ge k 2 with q | q
      · rcases (show k = 0 ∨ k = 1 by omega) with e | e <;> rw [e] at hk <;> omega
      · exact q
    have hkn : k * k ≤ n := by
      have := Nat.mul_le_mul_right k (Nat.le_of_lt hkd)
      omega
    refine h k hk2 hkn ?_
    rw [hk]
    exact Nat.mul_mod_left d k
  · exact h d hd hc hm
theorem dk_pr_odd {n : Nat} (h2 : 3 ≤ n) (ho : n % 2 = 1) (h : ∀ d : Nat, 3 ≤ d → d % 2 = 1 → d * d ≤ n → ¬ n % d = 0) : dk_pr n := by
  refine dk_pr_small (by omega) (fun d hd hdd hm => ?_)
  rcases (show d % 2 = 0 ∨ d % 2 = 1 by omega) with e | e
  · have h1 : 2 ∣ n := Nat.dvd_trans (Nat.dvd_of_mod_eq_zero e) (Nat.dvd_of_mod_eq_zero hm)
    omega
  · exact h d (by omega) e hdd hm
theorem dk_pr_not {n d : Nat} (hd : 2 ≤ d) (hdd : d * d ≤ n) (hm : n % d = 0) : ¬ dk_pr n := fun h => by
  have h1 : d * 2 ≤ d * d := Nat.mul_le_mul_left d hd
  exact h.2 d hd (by omega) hm
theorem dk_pw_sq {b k m r : Nat} (h : r = b ^ k % m) : r * r % m = b ^ (2 * k) % m := by
  subst h
  rw [← Nat.mul_mod, Nat.two_mul, Nat.pow_add]
theorem dk_pw_mul {b k m r : Nat} (h : r = b ^ k % m) : r * b % m = b ^ (k + 1) % m := by
  subst h
  rw [Nat.mod_mul_mod, Nat.pow_succ]
theorem dk_pw_half (e i : Nat) : e / 2 ^ i = 2 * (e / 2 ^ (i + 1)) + e / 2 ^ i % 2 := by
  rw [Nat.pow_succ, ← Nat.div_div_eq_div_mul]
  omega
/-! small facts on ints and longs -/
theorem dk_lne {n : Nat} (h0 : 0 < n) (h : n < 9223372036854775808) : ¬ lN n = 0 := fun q => by
  have h1 := (pk_lEQ (a := n) (b := 0) h (by decide)).mp q
  omega
theorem dk_su : ∀ n, n < 32 → (((nI n).toUInt32 &&& Int32.toUInt32 31).toBitVec % 32).toNat = n := by decide +kernel
theorem dk_bit {a j : Nat} (ha : a < 2147483648) (hj : j < 32) : (((nI a).toUInt32 >>> ((nI j).toUInt32 &&& Int32.toUInt32 31)).toInt32 &&& 1) = nI (a / 2 ^ j % 2) := by
  have h1 : a / 2 ^ j < 2 ^ 32 := Nat.lt_of_le_of_lt (Nat.div_le_self _ _) (by omega)
  rw [pk_ushrN (by omega) (nI j) j (dk_su j hj), pk_andN h1 1 (by decide)]
theorem dk_i_l {n : Nat} (h : n < 2147483648) : (lN n).toInt32 = nI n := lN_i n
/-! what the document names: H, making, generators -/
theorem dk_nat (x : Int64) : lN x.toUInt64.toNat = x := by
  have h : (lN x.toUInt64.toNat).toUInt64 = x.toUInt64 := by
    show UInt64.ofNat x.toUInt64.toNat = x.toUInt64
    exact UInt64.ofNat_toNat
  exact congrArg UInt64.toInt64 h
theorem dk_lt (x : Int64) : x.toUInt64.toNat < 18446744073709551616 := x.toUInt64.toNat_lt
theorem dk_us (x : Int64) {k : Nat} (hk : k < 64) : (x.toUInt64 >>> ((nI k).toInt64.toUInt64 &&& Int64.toUInt64 63)).toInt64 = lN (x.toUInt64.toNat / 2 ^ k) := by
  have h : ((nI k).toInt64.toUInt64 &&& Int64.toUInt64 63).toNat % 64 = k := by
    rw [nI_l (by omega), UInt64.toNat_and]
    have e : (lN k).toUInt64.toNat = k % 2 ^ 64 := rfl
    have e2 : (Int64.toUInt64 63).toNat = 2 ^ 6 - 1 := by decide
    rw [e, e2, Nat.and_two_pow_sub_one_eq_mod]
    omega
  rw [← dk_nat (x.toUInt64 >>> ((nI k).toInt64.toUInt64 &&& Int64.toUInt64 63)).toInt64]
  congr 1
  show (x.toUInt64 >>> ((nI k).toInt64.toUInt64 &&& Int64.toUInt64 63)).toNat = _
  rw [UInt64.toNat_shiftRight, h, Nat.shiftRight_eq_div_pow]
def dk_h1 (a b : Int64) : Int64 := (a ^^^ 1442695040888963407) * 6364136223846793005 + b
def dk_h2 (x : Int64) : Int64 := x ^^^ (x.toUInt64 >>> ((32 : Int32).toInt64.toUInt64 &&& Int64.toUInt64 63)).toInt64
def dk_h3 (x : Int64) : Int64 := x * 2862933555777941757
def dk_h4 (x : Int64) : Int64 := x ^^^ (x.toUInt64 >>> ((29 : Int32).toInt64.toUInt64 &&& Int64.toUInt64 63)).toInt64
def dk_H (a b : Int64) : Int64 := dk_h4 (dk_h3 (dk_h2 (dk_h1 a b)))
def dk_hN (a b : Int64) : Nat := (dk_H a b).toUInt64.toNat
theorem dk_hN_lt (a b : Int64) : dk_hN a b < 18446744073709551616 := dk_lt _
theorem dk_hus (a b : Int64) {k : Nat} (hk : k < 64) : ((dk_H a b).toUInt64 >>> ((nI k).toInt64.toUInt64 &&& Int64.toUInt64 63)).toInt64 = lN (dk_hN a b / 2 ^ k) := dk_us _ hk
/-- the order q of a seed -/
def dk_q (sd : Int64) : Nat := 16385 + 2 * (dk_hN sd 0 / 2251799813685248)
theorem dk_q_in (sd : Int64) : 16385 ≤ dk_q sd ∧ dk_q sd ≤ 32767 := by
  have h := dk_hN_lt sd 0
  unfold dk_q
  omega
def dk_X (sd : Int64) (c : Nat) : Nat := 1073741824 + dk_hN sd (lN (1 + c)) / 17179869184
theorem dk_X_in (sd : Int64) (c : Nat) : 1073741824 ≤ dk_X sd c ∧ dk_X sd c < 2147483648 := by
  have h := dk_hN_lt sd (lN (1 + c))
  unfold dk_X
  omega
/-- the try at a counter -/
def dk_try (sd : Int64) (c : Nat) : Nat := dk_X sd c - dk_X sd c % (2 * dk_q sd) + 1
theorem dk_try_in (sd : Int64) (c : Nat) : 0 < dk_try sd c ∧ dk_try sd c < 2147483648 := by
  have h := dk_X_in sd c
  have hm : dk_X sd c % (2 * dk_q sd) ≤ dk_X sd c := Nat.mod_le _ _
  have h2 : dk_X sd c % (2 * dk_q sd) % 2 = dk_X sd c % 2 := Nat.mod_mod_of_dvd _ ⟨dk_q sd, rfl⟩
  unfold dk_try
  omega
def dk_ok (sd : Int64) (c : Nat) : Prop := 1073741824 < dk_try sd c ∧ dk_pr (dk_try sd c)
def dk_Mk (sd : Int64) (r : Int32) : Prop :=
  (¬ dk_pr (dk_q sd) ∧ r = -1) ∨ (dk_pr (dk_q sd) ∧ ∃ c : Nat, c < 64 ∧ dk_ok sd c ∧ (∀ j, j < c → ¬ dk_ok sd j) ∧ r = nI c) ∨ (dk_pr (dk_q sd) ∧ (∀ j, j < 64 → ¬ dk_ok sd j) ∧ r = -2)
theorem dk_Mk_one {sd : Int64} {r r' : Int32} (h : dk_Mk sd r) (h' : dk_Mk sd r') : r = r' := by
  rcases h with ⟨h1, rfl⟩ | ⟨h1, c, h2, h3, h4, rfl⟩ | ⟨h1, h2, rfl⟩ <;> rcases h' with ⟨g1, rfl⟩ | ⟨g1, c', g2, g3, g4, rfl⟩ | ⟨g1, g2, rfl⟩
  · rfl
  · exact absurd g1 h1
  · exact absurd g1 h1
  · exact absurd h1 g1
  · rcases Nat.lt_trichotomy c c' with q | q | q
    · exact absurd h3 (g4 c q)
    · rw [q]
    · exact absurd g3 (h4 c' q)
  · exact absurd h3 (g2 c h2)
  · exact absurd h1 g1
  · exact absurd g3 (h2 c' g2)
  · rfl
/-- the g at a count -/
def dk_w (sd : Int64) (ix p k : Nat) : Nat := dk_hN (dk_H sd (lN (100 + ix))) (lN k) / 2 % p
def dk_g (sd : Int64) (ix p q k : Nat) : Nat := dk_w sd ix p k ^ ((p - 1) / q) % p
def dk_Gn (sd : Int64) (ix p q : Nat) (r : Int32) : Prop :=
  (∃ k : Nat, 1 ≤ k ∧ k ≤ 100 ∧ 1 < dk_g sd ix p q k ∧ (∀ j, 1 ≤ j → j < k → ¬ 1 < dk_g sd ix p q j) ∧ r = nI (dk_g sd ix p q k)) ∨ ((∀ j, 1 ≤ j → j ≤ 100 → ¬ 1 < dk_g sd ix p q j) ∧ r = 1)
theorem dk_Gn_one {sd : Int64} {ix p q : Nat} {r r' : Int32} (h : dk_Gn sd ix p q r) (h' : dk_Gn sd ix p q r') : r = r' := by
  rcases h with ⟨k, h1, h2, h3, h4, rfl⟩ | ⟨h1, rfl⟩ <;> rcases h' with ⟨k', g1, g2, g3, g4, rfl⟩ | ⟨g1, rfl⟩
  · rcases Nat.lt_trichotomy k k' with a | a | a
    · exact absurd h3 (g4 k h1 a)
    · rw [a]
    · exact absurd g3 (h4 k' g1 a)
  · exact absurd h3 (g1 k h1 h2)
  · exact absurd g3 (h1 k' g1 g2)
  · rfl
