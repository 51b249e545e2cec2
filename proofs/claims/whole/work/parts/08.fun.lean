/-! what each call answers, as functions of the state's numbers; the first of a pair: 0, or which exception the document names (in its order) -/
def dk_n (x : Int32) : Nat := x.toNatClampNeg
theorem dk_n_nI {n : Nat} (h : n < 2147483648) : dk_n (nI n) = n := nI_clamp (by omega)
def dk_pw (b x m : Int32) : Int32 := nI (dk_n b ^ dk_n x % dk_n m)
theorem dk_pw_nI {b x m : Nat} (hb : b < 2147483648) (hx : x < 2147483648) (hm : m < 2147483648) : dk_pw (nI b) (nI x) (nI m) = nI (b ^ x % m) := by
  unfold dk_pw
  rw [dk_n_nI hb, dk_n_nI hx, dk_n_nI hm]
abbrev dk_sl (x : Int32) : Prop := 0 ≤ x ∧ x < 8
theorem dk_sl_of {x : Int32} : dk_sl x ↔ ∃ j : Nat, j < 8 ∧ x = nI j := by
  constructor
  · intro h
    rcases pk_ix x (n := 8) (by decide) with q | q | q
    · exact absurd (Int32.lt_of_lt_of_le q h.1) (Int32.lt_irrefl)
    · exact absurd (Int32.lt_of_lt_of_le h.2 q) (Int32.lt_irrefl)
    · exact q
  · rintro ⟨j, h, rfl⟩
    exact ⟨nI_pos' (by omega), nI_lt h (by decide)⟩
abbrev dk_hk (se : Nat → Int32) (x : Int32) : Prop := dk_sl x ∧ ¬ se (dk_n x) = 0
theorem dk_hk_nI {se : Nat → Int32} {j : Nat} (hj : j < 8) : dk_hk se (nI j) ↔ ¬ se j = 0 := by
  unfold dk_hk
  rw [dk_n_nI (by omega)]
  exact ⟨fun h => h.2, fun h => ⟨dk_sl_of.mpr ⟨j, hj, rfl⟩, h⟩⟩
abbrev dk_ex (x q : Int32) : Prop := 1 ≤ x ∧ x < q
abbrev dk_pe (x p : Int32) : Prop := 2 ≤ x ∧ x ≤ p - 2
def dk_fcand (cp cq : Int32) (cs : Int64) (cn x : Int32) : Int64 := if x = 0 then cp.toInt64 else if x = 1 then cq.toInt64 else if x = 2 then cs else if x = 3 then cn.toInt64 else 0
def dk_fdom (dp dq dg x : Int32) : Int32 := if x = 0 then dp else if x = 1 then dq else if x = 2 then dg else 0
def dk_fkey (dp dq dg x y : Int32) : Int32 × Int32 := if dp = 0 then (1, 0) else if ¬ dk_sl x then (2, 0) else if ¬ dk_ex y dq then (3, 0) else (0, dk_pw dg y dp)
def dk_fpub (dp dg : Int32) (se : Nat → Int32) (x : Int32) : Int32 × Int32 := if ¬ dk_hk se x then (1, 0) else (0, dk_pw dg (se (dk_n x)) dp)
def dk_ffor (se : Nat → Int32) (x : Int32) : Int32 := if ¬ dk_hk se x then 1 else 0
def dk_ffit (dp dq y : Int32) : Int32 × Int32 := if dp = 0 then (1, 0) else (0, if dk_pe y dp ∧ dk_pw y dq dp = 1 then 1 else 0)
def dk_z (a : Int64) : Nat := dk_hN a 3 / 562949953421312
theorem dk_z_lt (a : Int64) : dk_z a < 32768 := by
  have h := dk_hN_lt a 3
  unfold dk_z
  omega
def dk_sr (dp dq dg k : Int32) : Nat := dk_n dg ^ dk_n k % dk_n dp % dk_n dq
def dk_ss (dp dq dg x k : Int32) (a : Int64) : Nat := (dk_z a + dk_n x * dk_sr dp dq dg k) % dk_n dq * (dk_n k ^ (dk_n dq - 2) % dk_n dq) % dk_n dq
def dk_fsig (dp dq dg : Int32) (se : Nat → Int32) (x : Int32) (a : Int64) (k : Int32) : Int32 × Int64 :=
  if ¬ dk_hk se x then (1, 0) else if ¬ dk_ex k dq then (2, 0) else if dk_sr dp dq dg k = 0 ∨ dk_ss dp dq dg (se (dk_n x)) k a = 0 then (3, 0) else (0, lN (dk_sr dp dq dg k * 4294967296 + dk_ss dp dq dg (se (dk_n x)) k a))
def dk_vw (dq s : Int32) : Nat := dk_n s ^ (dk_n dq - 2) % dk_n dq
def dk_vv (dp dq dg y : Int32) (a : Int64) (r s : Int32) : Nat := (dk_n dg ^ (dk_z a * dk_vw dq s % dk_n dq) % dk_n dp) * (dk_n y ^ (dk_n r * dk_vw dq s % dk_n dq) % dk_n dp) % dk_n dp % dk_n dq
def dk_fver (dp dq dg y : Int32) (a : Int64) (r s : Int32) : Int32 × Int32 := if dp = 0 then (1, 0) else (0, if (1 ≤ y ∧ y < dp) ∧ dk_ex r dq ∧ dk_ex s dq ∧ dk_n r = dk_vv dp dq dg y a r s then 1 else 0)
def dk_fagr (dp : Int32) (se : Nat → Int32) (x y : Int32) : Int32 × Int32 := if ¬ dk_hk se x then (1, 0) else if ¬ dk_pe y dp then (2, 0) else if dk_pw y (se (dk_n x)) dp = 1 then (3, 0) else (0, dk_pw y (se (dk_n x)) dp)
def dk_val (x y : Int32) (sd : Int64) (n : Int32) : Prop := dk_pr (dk_q sd) ∧ ∃ c : Nat, c < 64 ∧ dk_ok sd c ∧ (∀ j, j < c → ¬ dk_ok sd j) ∧ n = nI c ∧ y = nI (dk_q sd) ∧ x = nI (dk_try sd c)
/-! what always holds of the state -/
def dk_IC (cp cq : Int32) (cs : Int64) (cn : Int32) : Prop := (cp = 0 ∧ cq = 0 ∧ cs = 0 ∧ cn = 0) ∨ ∃ c : Nat, c < 64 ∧ dk_ok cs c ∧ dk_pr (dk_q cs) ∧ cp = nI (dk_try cs c) ∧ cq = nI (dk_q cs) ∧ cn = nI c
def dk_ID (dp dq dg : Int32) : Prop := (dp = 0 ∧ dq = 0 ∧ dg = 0) ∨ ∃ P Q G : Nat, P < 2147483648 ∧ Q < 2147483648 ∧ dk_dom P Q G ∧ dp = nI P ∧ dq = nI Q ∧ dg = nI G
def dk_IK (dp dq dg : Int32) (se pu : Nat → Int32) : Prop := ∀ j, j < 8 → se j = 0 ∨ (¬ dp = 0 ∧ dk_ex (se j) dq ∧ pu j = dk_pw dg (se j) dp)
theorem dk_dom_sz {P Q G : Nat} (hP : P < 2147483648) (h : dk_dom P Q G) : 3 ≤ P ∧ 3 ≤ Q ∧ Q < 1073741824 ∧ Q < P ∧ 2 ≤ G ∧ G < P := by
  obtain ⟨h1, h2, h3, h4, h5, h6, -⟩ := h
  have hk : P - 1 = Q * ((P - 1) / Q) := by
    have := Nat.div_add_mod (P - 1) Q
    omega
  have hodd : P % 2 = 1 := by
    rcases (show P % 2 = 0 ∨ P % 2 = 1 by omega) with q | q
    · exact absurd q (h1.2 2 (by omega) (by omega))
    · exact q
  have hqo : Q % 2 = 1 := by
    rcases (show Q % 2 = 0 ∨ Q % 2 = 1 by omega) with q | q
    · exact absurd q (h2.2 2 (by omega) (by omega))
    · exact q
  generalize (P - 1) / Q = k at hk
  have hk2 : 2 ≤ k := by
    rcases Nat.lt_or_ge k 2 with q | q
    · rcases (show k = 0 ∨ k = 1 by omega) with w | w <;> rw [w] at hk <;> omega
    · exact q
  have := Nat.mul_le_mul_left Q hk2
  omega
theorem dk_lt1 {x : Int32} {Q : Nat} (h0 : 1 ≤ Q) (hQ : Q < 2147483648) : x ≤ nI Q - 1 ↔ x < nI Q := by
  have e : nI Q - 1 = nI (Q - 1) := pk_sub (b := 1) h0
  rw [e, Int32.le_iff_toInt_le, Int32.lt_iff_toInt_lt, nI_toInt (by omega), nI_toInt (by omega)]
  omega
theorem dk_ge0 {x : Int32} (h : 0 ≤ x) : ∃ j : Nat, j < 2147483648 ∧ x = nI j := by
  obtain ⟨j, h1, h2⟩ := nI_of (x := x) (fun q => Int32.lt_irrefl (Int32.lt_of_lt_of_le q h))
  exact ⟨j, by omega, h2⟩
theorem dk_ex_of {x : Int32} {Q : Nat} (hQ : Q < 2147483648) (h : dk_ex x (nI Q)) : ∃ j : Nat, 1 ≤ j ∧ j < Q ∧ x = nI j := by
  obtain ⟨j, h1, rfl⟩ := dk_ge0 (x := x) (Int32.le_trans (by decide) h.1)
  exact ⟨j, (nI_leI (a := 1) (by omega) (by omega)).mp h.1, (nI_ltI (by omega) (by omega)).mp h.2, rfl⟩
theorem dk_pe_of {x : Int32} {P : Nat} (h3 : 3 ≤ P) (hP : P < 2147483648) : dk_pe x (nI P) ↔ ∃ j : Nat, 2 ≤ j ∧ j ≤ P - 2 ∧ x = nI j := by
  have e : nI P - 2 = nI (P - 2) := pk_sub (b := 2) (by omega)
  unfold dk_pe
  rw [e]
  constructor
  · intro h
    obtain ⟨j, h1, rfl⟩ := dk_ge0 (x := x) (Int32.le_trans (by decide) h.1)
    exact ⟨j, (nI_leI (a := 2) (by omega) (by omega)).mp h.1, (nI_leI (by omega) (by omega)).mp h.2, rfl⟩
  · rintro ⟨j, h1, h2, rfl⟩
    exact ⟨nI_le h1 (by omega), nI_le h2 (by omega)⟩
theorem dk_not_lt {x y : Int32} : ¬ x < y ↔ y ≤ x := Int32.not_lt
theorem dk_not_le {x y : Int32} : ¬ x ≤ y ↔ y < x := Int32.not_le
theorem dk_sw3 (x : Int32) : x = 0 ∨ x = 1 ∨ x = 2 ∨ (x.toInt < 0 ∨ 2 < x.toInt) ∧ ¬ x = 0 ∧ ¬ x = 1 ∧ ¬ x = 2 := by
  by_cases h0 : x = 0
  · exact Or.inl h0
  by_cases h1 : x = 1
  · exact Or.inr (Or.inl h1)
  by_cases h2 : x = 2
  · exact Or.inr (Or.inr (Or.inl h2))
  refine Or.inr (Or.inr (Or.inr ⟨?_, h0, h1, h2⟩))
  rcases pk_ix x (n := 3) (by decide) with q | q | ⟨j, q1, q2⟩
  · exact Or.inl (by rw [Int32.lt_iff_toInt_lt] at q; exact q)
  · refine Or.inr ?_
    rw [Int32.le_iff_toInt_le, nI_toInt (by decide)] at q
    omega
  · rcases (show j = 0 ∨ j = 1 ∨ j = 2 by omega) with rfl | rfl | rfl
    · exact absurd q2 h0
    · exact absurd q2 h1
    · exact absurd q2 h2
theorem dk_sw4 (x : Int32) : x = 0 ∨ x = 1 ∨ x = 2 ∨ x = 3 ∨ (x.toInt < 0 ∨ 3 < x.toInt) ∧ ¬ x = 0 ∧ ¬ x = 1 ∧ ¬ x = 2 ∧ ¬ x = 3 := by
  rcases dk_sw3 x with h | h | h | ⟨h, h0, h1, h2⟩
  · exact Or.inl h
  · exact Or.inr (Or.inl h)
  · exact Or.inr (Or.inr (Or.inl h))
  by_cases h3 : x = 3
  · exact Or.inr (Or.inr (Or.inr (Or.inl h3)))
  refine Or.inr (Or.inr (Or.inr (Or.inr ⟨?_, h0, h1, h2, h3⟩)))
  rcases h with h | h
  · exact Or.inl h
  · refine Or.inr ?_
    rcases Int.lt_or_le 3 x.toInt with q | q
    · exact q
    · exact absurd (Int32.toInt_inj.mp (show x.toInt = (3 : Int32).toInt by rw [show (3 : Int32).toInt = 3 from rfl]; omega)) h3
