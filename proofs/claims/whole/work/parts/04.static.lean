theorem dk_half0 {a j : Nat} (h : a / 2 ^ j % 2 = 0) : 2 * (a / 2 ^ (j + 1)) = a / 2 ^ j := by
  have := dk_pw_half a j
  omega
theorem dk_half1 {a j : Nat} (h : a / 2 ^ j % 2 = 1) : 2 * (a / 2 ^ (j + 1)) + 1 = a / 2 ^ j := by
  have := dk_pw_half a j
  omega

set_option maxHeartbeats 4000000 in
set_option maxRecDepth 100000 in
theorem dk_c_mix (l : Launch) (a b : Int64) : Met l yX0_mix wsX0_mix ({ frames := 0, cells := 0, slots := 0, locals := 0 }) (va_Pc [.long a, .long b] (fun _ => True)) (vp_Sl (fun r9 => r9 = dk_H a b)) 0 0 (fun _ => False) := by
  refine Met.ofW (cc := cX0_mix) (maxL := 6) (ret := (some .long)) (by decide) rfl ?_
  intro p e s m args below meth c s₁ B hml hv
  obtain ⟨rfl, -⟩ := hv
  have hx := B.exec
  have hb := B.bytes
  have hr := B.returns
  have hts := atoms_spec (ws := wsX0_mix) B.pre
  have hown : s.vm.findClass RX0 = some m.cls := findClass_of_methodNamed B.named
  have hlocks := B.notSynchronized
  have hl := lv_entry ([.long a, .long b]) (n := 6) (Nat.le_of_ble_eq_true rfl)
  rw [lg_entry_eq]
  generalize (lg_sl ([.long a, .long b]) ++ List.replicate (6 - (lg_sl ([.long a, .long b])).length) Slot.unset).toArray = ls at hl ⊢
  have hl : lv_has ls 6 [(0, .long a), (2, .long b)] := hl
  refine lv_lload_n hx hb dX0_mix_0 rfl (lv_at hl 0 rfl) ?_
  refine lv_ldc2 (v := 1442695040888963407) hx hb hown (hts (.constantLong RX0 138 1442695040888963407) (by decide +kernel)) dX0_mix_1 ?_
  refine lv_lxor hx hb dX0_mix_4 ?_
  refine lv_ldc2 (v := 6364136223846793005) hx hb hown (hts (.constantLong RX0 140 6364136223846793005) (by decide +kernel)) dX0_mix_5 ?_
  refine lv_lmul hx hb dX0_mix_8 ?_
  refine lv_lload_n hx hb dX0_mix_9 rfl (lv_at hl 1 rfl) ?_
  refine lv_ladd hx hb dX0_mix_10 ?_
  refine lv_topl (fun v_10 ev_10 => ?_)
  have ev_10 : v_10 = dk_h1 a b := ev_10.trans rfl
  subst ev_10
  refine lv_lstore (lv' := [(4, .long (dk_h1 a b)), (0, .long a), (2, .long b)]) hx hb dX0_mix_11 hl (by decide) rfl (fun ls hl => ?_)
  refine lv_lload hx hb dX0_mix_13 (lv_at hl 0 rfl) ?_
  refine lv_lload hx hb dX0_mix_15 (lv_at hl 0 rfl) ?_
  refine lv_bipush (v := 32) hx hb dX0_mix_17 (by decide) ?_
  refine lv_lushr hx hb dX0_mix_19 rfl ?_
  refine lv_lxor hx hb dX0_mix_20 ?_
  refine lv_topl (fun v_20 ev_20 => ?_)
  have ev_20 : v_20 = dk_h2 (dk_h1 a b) := ev_20.trans rfl
  subst ev_20
  refine lv_lstore (lv' := [(4, .long (dk_h2 (dk_h1 a b))), (0, .long a), (2, .long b)]) hx hb dX0_mix_21 hl (by decide) rfl (fun ls hl => ?_)
  refine lv_lload hx hb dX0_mix_23 (lv_at hl 0 rfl) ?_
  refine lv_ldc2 (v := 2862933555777941757) hx hb hown (hts (.constantLong RX0 142 2862933555777941757) (by decide +kernel)) dX0_mix_25 ?_
  refine lv_lmul hx hb dX0_mix_28 ?_
  refine lv_topl (fun v_28 ev_28 => ?_)
  have ev_28 : v_28 = dk_h3 (dk_h2 (dk_h1 a b)) := ev_28.trans rfl
  subst ev_28
  refine lv_lstore (lv' := [(4, .long (dk_h3 (dk_h2 (dk_h1 a b)))), (0, .long a), (2, .long b)]) hx hb dX0_mix_29 hl (by decide) rfl (fun ls hl => ?_)
  refine lv_lload hx hb dX0_mix_31 (lv_at hl 0 rfl) ?_
  refine lv_lload hx hb dX0_mix_33 (lv_at hl 0 rfl) ?_
  refine lv_bipush (v := 29) hx hb dX0_mix_35 (by decide) ?_
  refine lv_lushr hx hb dX0_mix_37 rfl ?_
  refine lv_lxor hx hb dX0_mix_38 ?_
  refine lv_topl (fun v_38 ev_38 => ?_)
  have ev_38 : v_38 = dk_H a b := ev_38.trans rfl
  subst ev_38
  exact W.lret (v := (dk_H a b)) hx hb hr (fun t ht hW => ⟨_, rfl, rfl, ht⟩) (fun q h => nomatch h) dX0_mix_39

set_option maxHeartbeats 4000000 in
set_option maxRecDepth 100000 in
theorem dk_power_loop {p : Program} {l : Launch} {e : Env} {R : Room} {s : State} {m : MethodId} {args : Array Value} {below : List Frame} {meth : Method} {c : Code} {H : Heap} {locs : List Loc} {cells slots : Nat} {Q : State → Prop} (hx : p.tables.exec = Jvm.exec) (hb : c.code = cX0_power) (b9 e9 m9 : Nat) (hb9 : b9 < 2147483648) (he9 : e9 < 2147483648) (hm0 : 2 ≤ m9) (hm9 : m9 < 2147483648) (kk : ∀ ls : Array Slot, lv_has ls 6 [(3, .long (lN (b9 ^ e9 % m9)))] → W p l e R s m args below meth c H locs cells slots Q (F0 m 42 ls [])) :
    ∀ (n r : Nat) (ls : Array Slot), n ≤ 31 → r = b9 ^ (e9 / 2 ^ n) % m9 → lv_has ls 6 [(0, .int (nI b9)), (1, .int (nI e9)), (2, .int (nI m9)), (3, .long (lN r)), (5, .int (nI n + (-1)))] → W p l e R s m args below meth c H locs cells slots Q (F0 m 6 ls []) := by
  have hz : ¬ (nI m9).toInt64 = 0 := by rw [nI_l hm9]; exact dk_lne (by omega) (by omega)
  intro n
  induction n with
  | zero =>
    intro r ls hn er hl
    refine lv_iload hx hb dX0_power_6 (lv_at hl 4 rfl) ?_
    refine lv_if_lt (tgt := 42) hx hb dX0_power_8 (by decide) (fun c_8 => ?_) (fun c_8 => ?_)
    · have er : r = b9 ^ e9 % m9 := by rw [er, Nat.pow_zero, Nat.div_one]
      subst er
      exact kk ls (lv_sub hl [3] rfl)
    · exact absurd (by decide) c_8
  | succ j ih =>
    intro r ls hn er hl
    have hrm : r < m9 := by rw [er]; exact Nat.mod_lt _ (by omega)
    rw [pk_m1] at hl
    have hrr : r * r < 9223372036854775808 := Nat.lt_of_le_of_lt (Nat.mul_le_mul (Nat.le_of_lt (Nat.lt_trans hrm hm9)) (Nat.le_of_lt (Nat.lt_trans hrm hm9))) (by decide)
    have hrm2 : r * r % m9 < m9 := Nat.mod_lt _ (by omega)
    have hrb : r * r % m9 * b9 < 9223372036854775808 := Nat.lt_of_le_of_lt (Nat.mul_le_mul (Nat.le_of_lt (Nat.lt_trans hrm2 hm9)) (Nat.le_of_lt hb9)) (by decide)
    refine lv_iload hx hb dX0_power_6 (lv_at hl 4 rfl) ?_
    refine lv_if_lt (tgt := 42) hx hb dX0_power_8 (by decide) (fun c_8 => ?_) (fun c_8 => ?_)
    · exact absurd c_8 (nI_pos (by omega))
    · refine lv_lload_n hx hb dX0_power_11 rfl (lv_at hl 3 rfl) ?_
      refine lv_lload_n hx hb dX0_power_12 rfl (lv_at hl 3 rfl) ?_
      refine lv_lmul hx hb dX0_power_13 ?_
      refine lv_iload_n hx hb dX0_power_14 rfl (lv_at hl 2 rfl) ?_
      refine lv_i2l hx hb dX0_power_15 rfl ?_
      refine lv_lrem hx hb dX0_power_16 hz ?_
      refine lv_topl (fun v_16 ev_16 => ?_)
      have ev_16 : v_16 = lN (r * r % m9) := ev_16.trans (by rw [nI_l hm9, lN_mul, pk_lRem hrr (by omega) (by omega)])
      subst ev_16
      refine lv_lstore_n (lv' := [(3, .long (lN (r * r % m9))), (0, .int (nI b9)), (1, .int (nI e9)), (2, .int (nI m9)), (5, .int (nI j))]) hx hb dX0_power_17 rfl hl (by decide) rfl (fun ls hl => ?_)
      refine lv_iload_n hx hb dX0_power_18 rfl (lv_at hl 2 rfl) ?_
      refine lv_iload hx hb dX0_power_19 (lv_at hl 4 rfl) ?_
      refine lv_iushr hx hb dX0_power_21 rfl ?_
      refine lv_iconst (v := 1) hx hb dX0_power_22 (by decide) ?_
      refine lv_iand hx hb dX0_power_23 ?_
      refine lv_topi (fun v_23 ev_23 => ?_)
      have ev_23 : v_23 = nI (e9 / 2 ^ j % 2) := ev_23.trans (dk_bit he9 (by omega))
      subst ev_23
      refine lv_iconst (v := 1) hx hb dX0_power_24 (by decide) ?_
      refine lv_icmp_ne (tgt := 36) hx hb dX0_power_25 (by decide) (fun c_25 => ?_) (fun c_25 => ?_)
      · have hb1 : e9 / 2 ^ j % 2 = 0 := by
          rcases (show e9 / 2 ^ j % 2 = 0 ∨ e9 / 2 ^ j % 2 = 1 by omega) with q | q
          · exact q
          · exact absurd (by rw [q]; rfl) c_25
        refine lv_iinc (v := ((nI j) + (-1))) (lv' := [(5, .int ((nI j) + (-1))), (3, .long (lN (r * r % m9))), (0, .int (nI b9)), (1, .int (nI e9)), (2, .int (nI m9))]) hx hb dX0_power_36 hl (k := 4) rfl rfl (by decide) rfl (fun ls hl => ?_)
        refine lv_goto (tgt := 6) hx hb dX0_power_39 (by decide) ?_
        exact ih (r * r % m9) ls (by omega) (by rw [dk_pw_sq er, dk_half0 hb1]) (lv_sub hl [2, 3, 4, 1, 0] rfl)
      · have hb1 : e9 / 2 ^ j % 2 = 1 := (nI_eq (by omega) (by omega)).mp c_25
        refine lv_lload_n hx hb dX0_power_28 rfl (lv_at hl 0 rfl) ?_
        refine lv_iload_n hx hb dX0_power_29 rfl (lv_at hl 1 rfl) ?_
        refine lv_i2l hx hb dX0_power_30 rfl ?_
        refine lv_lmul hx hb dX0_power_31 ?_
        refine lv_iload_n hx hb dX0_power_32 rfl (lv_at hl 3 rfl) ?_
        refine lv_i2l hx hb dX0_power_33 rfl ?_
        refine lv_lrem hx hb dX0_power_34 hz ?_
        refine lv_topl (fun v_34 ev_34 => ?_)
        have ev_34 : v_34 = lN (r * r % m9 * b9 % m9) := ev_34.trans (by rw [nI_l hm9, nI_l hb9, lN_mul, pk_lRem hrb (by omega) (by omega)])
        subst ev_34
        refine lv_lstore_n (lv' := [(3, .long (lN (r * r % m9 * b9 % m9))), (0, .int (nI b9)), (1, .int (nI e9)), (2, .int (nI m9)), (5, .int (nI j))]) hx hb dX0_power_35 rfl hl (by decide) rfl (fun ls hl => ?_)
        refine lv_iinc (v := ((nI j) + (-1))) (lv' := [(5, .int ((nI j) + (-1))), (3, .long (lN (r * r % m9 * b9 % m9))), (0, .int (nI b9)), (1, .int (nI e9)), (2, .int (nI m9))]) hx hb dX0_power_36 hl (k := 4) rfl rfl (by decide) rfl (fun ls hl => ?_)
        refine lv_goto (tgt := 6) hx hb dX0_power_39 (by decide) ?_
        exact ih (r * r % m9 * b9 % m9) ls (by omega) (by rw [dk_pw_mul (dk_pw_sq er), dk_half1 hb1]) (lv_sub hl [2, 3, 4, 1, 0] rfl)

set_option maxHeartbeats 4000000 in
set_option maxRecDepth 100000 in
theorem dk_c_power (l : Launch) (b9 e9 m9 : Nat) (hb9 : b9 < 2147483648) (he9 : e9 < 2147483648) (hm0 : 2 ≤ m9) (hm9 : m9 < 2147483648) : Met l yX0_power wsX0_power ({ frames := 0, cells := 0, slots := 0, locals := 0 }) (va_Pc [.int (nI b9), .int (nI e9), .int (nI m9)] (fun _ => True)) (vp_Si (fun r9 => r9 = nI (b9 ^ e9 % m9))) 0 0 (fun _ => False) := by
  refine Met.ofW (cc := cX0_power) (maxL := 6) (ret := (some .int)) (by decide) rfl ?_
  intro p e s m args below meth c s₁ B hml hv
  obtain ⟨rfl, -⟩ := hv
  have hx := B.exec
  have hb := B.bytes
  have hr := B.returns
  have hts := atoms_spec (ws := wsX0_power) B.pre
  have hown : s.vm.findClass RX0 = some m.cls := findClass_of_methodNamed B.named
  have hlocks := B.notSynchronized
  have hl := lv_entry ([.int (nI b9), .int (nI e9), .int (nI m9)]) (n := 6) (Nat.le_of_ble_eq_true rfl)
  rw [lg_entry_eq]
  generalize (lg_sl ([.int (nI b9), .int (nI e9), .int (nI m9)]) ++ List.replicate (6 - (lg_sl ([.int (nI b9), .int (nI e9), .int (nI m9)])).length) Slot.unset).toArray = ls at hl ⊢
  have hl : lv_has ls 6 [(0, .int (nI b9)), (1, .int (nI e9)), (2, .int (nI m9))] := hl
  refine lv_lconst (v := 1) hx hb dX0_power_0 (by decide) ?_
  refine lv_lstore_n (lv' := [(3, .long 1), (0, .int (nI b9)), (1, .int (nI e9)), (2, .int (nI m9))]) hx hb dX0_power_1 rfl hl (by decide) rfl (fun ls hl => ?_)
  refine lv_bipush (v := 30) hx hb dX0_power_2 (by decide) ?_
  refine lv_istore (lv' := [(5, .int 30), (3, .long 1), (0, .int (nI b9)), (1, .int (nI e9)), (2, .int (nI m9))]) hx hb dX0_power_4 hl (by decide) rfl (fun ls hl => ?_)
  refine dk_power_loop hx hb b9 e9 m9 hb9 he9 hm0 hm9 (fun ls hl => ?_) 31 1 ls (Nat.le_refl _) (by rw [Nat.div_eq_of_lt (by omega), Nat.pow_zero, Nat.mod_eq_of_lt (by omega)]) (lv_sub hl [2, 3, 4, 1, 0] rfl)
  refine lv_lload_n hx hb dX0_power_42 rfl (lv_at hl 0 rfl) ?_
  refine lv_l2i hx hb dX0_power_43 rfl ?_
  refine lv_topi (fun v_43 ev_43 => ?_)
  have ev_43 : v_43 = nI (b9 ^ e9 % m9) := ev_43.trans (lN_i _)
  subst ev_43
  exact W.iret (v := (nI (b9 ^ e9 % m9))) hx hb hr (fun t ht hW => ⟨_, rfl, rfl, ht⟩) (fun q h => nomatch h) dX0_power_44

set_option maxHeartbeats 4000000 in
set_option maxRecDepth 100000 in
theorem dk_isPrime_loop {p : Program} {l : Launch} {e : Env} {R : Room} {s : State} {m : MethodId} {args : Array Value} {below : List Frame} {meth : Method} {c : Code} {H : Heap} {locs : List Loc} {cells slots : Nat} {Q : State → Prop} (hx : p.tables.exec = Jvm.exec) (hb : c.code = cX0_isPrime) (hown : s.vm.findClass RX0 = some m.cls) (hts : ∀ w ∈ wsX0_isPrime, w.before args s = true) (x : Nat) (hx2 : 3 ≤ x) (hx9 : x < 2147483648) (hod : x % 2 = 1) (k1 : dk_pr x → ∀ (pc : Nat) (ls : Array Slot), pc = 38 ∨ pc = 54 → W p l e R s m args below meth c H locs cells slots Q (F0 m pc ls [.int 1])) (k0 : ¬ dk_pr x → ∀ ls : Array Slot, W p l e R s m args below meth c H locs cells slots Q (F0 m 46 ls [.int 0])) :
    ∀ (n d : Nat) (ls : Array Slot), 46343 ≤ d + n → 3 ≤ d → d ≤ 46342 → d % 2 = 1 → (∀ d2 : Nat, 3 ≤ d2 → d2 % 2 = 1 → d2 < d → ¬ x % d2 = 0) → lv_has ls 2 [(0, .int (nI x)), (1, .int (nI d))] → W p l e R s m args below meth c H locs cells slots Q (F0 m 24 ls []) := by
  intro n
  induction n with
  | zero =>
    intro d ls h1 h2 h3
    exact absurd h1 (by omega)
  | succ n ih =>
    intro d ls h1 h2 h3 h4 h5 hl
    refine lv_iload_n hx hb dX0_isPrime_24 rfl (lv_at hl 1 rfl) ?_
    refine lv_ldc (v := 46340) hx hb hown (hts (.constant RX0 137 46340) (by decide +kernel)) dX0_isPrime_25 ?_
    refine lv_icmp_gt (tgt := 53) hx hb dX0_isPrime_27 (by decide) (fun c_27 => ?_) (fun c_27 => ?_)
    · have hd9 : 46340 < d := (nI_ltI (by omega) (by omega)).mp c_27
      have hp : dk_pr x := dk_pr_odd hx2 hod (fun d2 q1 q2 q3 => h5 d2 q1 q2 (by
        rcases Nat.lt_or_ge d2 d with q | q
        · exact q
        · have := Nat.mul_le_mul (Nat.le_trans hd9 q) (Nat.le_trans hd9 q)
          omega))
      refine lv_iconst (v := 1) hx hb dX0_isPrime_53 (by decide) ?_
      exact k1 hp 54 ls (Or.inr rfl)
    · have hd9 : ¬ 46340 < d := fun q => c_27 ((nI_ltI (a := 46340) (b := d) (by omega) (by omega)).mpr q)
      have hdm : d * d ≤ 46340 * 46340 := Nat.mul_le_mul (by omega) (by omega)
      refine lv_iload_n hx hb dX0_isPrime_30 rfl (lv_at hl 1 rfl) ?_
      refine lv_iload_n hx hb dX0_isPrime_31 rfl (lv_at hl 1 rfl) ?_
      refine lv_imul hx hb dX0_isPrime_32 ?_
      refine lv_topi (fun v_32 ev_32 => ?_)
      have ev_32 : v_32 = nI (d * d) := ev_32.trans (pk_mul d d)
      subst ev_32
      refine lv_iload_n hx hb dX0_isPrime_33 rfl (lv_at hl 0 rfl) ?_
      refine lv_icmp_le (tgt := 39) hx hb dX0_isPrime_34 (by decide) (fun c_34 => ?_) (fun c_34 => ?_)
      · have hle : d * d ≤ x := (nI_leI (by omega) (by omega)).mp c_34
        refine lv_iload_n hx hb dX0_isPrime_39 rfl (lv_at hl 0 rfl) ?_
        refine lv_iload_n hx hb dX0_isPrime_40 rfl (lv_at hl 1 rfl) ?_
        refine lv_irem hx hb dX0_isPrime_41 (nI_ne0 (by omega) (by omega)) ?_
        refine lv_topi (fun v_41 ev_41 => ?_)
        have ev_41 : v_41 = nI (x % d) := ev_41.trans (pk_rem (by omega) (by omega) (by omega))
        subst ev_41
        refine lv_if_ne (tgt := 47) hx hb dX0_isPrime_42 (by decide) (fun c_42 => ?_) (fun c_42 => ?_)
        · have hnm : ¬ x % d = 0 := fun q => c_42 (by rw [q]; rfl)
          refine lv_iinc (v := (nI (d + 2))) (lv' := [(1, .int (nI (d + 2))), (0, .int (nI x))]) hx hb dX0_isPrime_47 hl (k := 1) rfl (nI_add d 2) (by decide) rfl (fun ls hl => ?_)
          refine lv_goto (tgt := 24) hx hb dX0_isPrime_50 (by decide) ?_
          exact ih (d + 2) ls (by omega) (by omega) (by omega) (by omega) (fun d2 q1 q2 q3 => if q4 : d2 < d then h5 d2 q1 q2 q4 else by rw [show d2 = d by omega]; exact hnm) (lv_sub hl [1, 0] rfl)
        · have hlt : x % d < d := Nat.mod_lt _ (by omega)
          have hnm : x % d = 0 := (nI_eq (by omega) (by omega)).mp c_42
          refine lv_iconst (v := 0) hx hb dX0_isPrime_45 (by decide) ?_
          exact k0 (dk_pr_not (by omega) hle hnm) ls
      · have hle : ¬ d * d ≤ x := fun q => c_34 ((nI_leI (a := d * d) (b := x) (by omega) (by omega)).mpr q)
        have hp : dk_pr x := dk_pr_odd hx2 hod (fun d2 q1 q2 q3 => h5 d2 q1 q2 (by
          rcases Nat.lt_or_ge d2 d with q | q
          · exact q
          · have := Nat.mul_le_mul q q
            omega))
        refine lv_iconst (v := 1) hx hb dX0_isPrime_37 (by decide) ?_
        exact k1 hp 38 ls (Or.inl rfl)

set_option maxHeartbeats 4000000 in
set_option maxRecDepth 100000 in
theorem dk_c_isPrime (l : Launch) (x : Nat) (hx9 : x < 2147483648) : Met l yX0_isPrime wsX0_isPrime ({ frames := 0, cells := 0, slots := 0, locals := 0 }) (va_Pc [.int (nI x)] (fun _ => True)) (vp_Si (fun r9 => (r9 = 1 ∧ dk_pr x) ∨ (r9 = 0 ∧ ¬ dk_pr x))) 0 0 (fun _ => False) := by
  refine Met.ofW (cc := cX0_isPrime) (maxL := 2) (ret := (some .boolean)) (by decide) rfl ?_
  intro p e s m args below meth c s₁ B hml hv
  obtain ⟨rfl, -⟩ := hv
  have hx := B.exec
  have hb := B.bytes
  have hr := B.returns
  have hts := atoms_spec (ws := wsX0_isPrime) B.pre
  have hown : s.vm.findClass RX0 = some m.cls := findClass_of_methodNamed B.named
  have hlocks := B.notSynchronized
  have hl := lv_entry ([.int (nI x)]) (n := 2) (Nat.le_of_ble_eq_true rfl)
  rw [lg_entry_eq]
  generalize (lg_sl ([.int (nI x)]) ++ List.replicate (2 - (lg_sl ([.int (nI x)])).length) Slot.unset).toArray = ls at hl ⊢
  have hl : lv_has ls 2 [(0, .int (nI x))] := hl
  refine lv_iload_n hx hb dX0_isPrime_0 rfl (lv_at hl 0 rfl) ?_
  refine lv_iconst (v := 2) hx hb dX0_isPrime_1 (by decide) ?_
  refine lv_icmp_lt (tgt := 11) hx hb dX0_isPrime_2 (by decide) (fun c_2 => ?_) (fun c_2 => ?_)
  · have hlt : x < 2 := (nI_ltI (by omega) (by omega)).mp c_2
    refine lv_iload_n hx hb dX0_isPrime_11 rfl (lv_at hl 0 rfl) ?_
    refine lv_iconst (v := 2) hx hb dX0_isPrime_12 (by decide) ?_
    refine lv_icmp_ne (tgt := 20) hx hb dX0_isPrime_13 (by decide) (fun c_13 => ?_) (fun c_13 => ?_)
    · have hn2 : ¬ x = 2 := fun q => c_13 (by rw [q]; rfl)
      have hp : ¬ dk_pr x := fun q => by
        have q1 := q.1
        first
          | omega
          | exact q.2 2 (by omega) (by omega) hev
      refine lv_iconst (v := 0) hx hb dX0_isPrime_20 (by decide) ?_
      exact W.zret (v := 0) (ty := .boolean) hx hb hr rfl (fun t ht hW => ⟨_, rfl, Or.inr ⟨rfl, hp⟩, ht⟩) (fun q h => nomatch h) dX0_isPrime_21
    · have hn2 : x = 2 := (nI_eq (by omega) (by omega)).mp c_13
      have hp : dk_pr x := ⟨by omega, fun d q1 q2 => by omega⟩
      refine lv_iconst (v := 1) hx hb dX0_isPrime_16 (by decide) ?_
      refine lv_goto (tgt := 21) hx hb dX0_isPrime_17 (by decide) ?_
      exact W.zret (v := 1) (ty := .boolean) hx hb hr rfl (fun t ht hW => ⟨_, rfl, Or.inl ⟨rfl, hp⟩, ht⟩) (fun q h => nomatch h) dX0_isPrime_21
  · have hge : ¬ x < 2 := fun q => c_2 ((nI_ltI (a := x) (b := 2) (by omega) (by omega)).mpr q)
    refine lv_iload_n hx hb dX0_isPrime_5 rfl (lv_at hl 0 rfl) ?_
    refine lv_iconst (v := 2) hx hb dX0_isPrime_6 (by decide) ?_
    refine lv_irem hx hb dX0_isPrime_7 (by decide) ?_
    refine lv_topi (fun v_7 ev_7 => ?_)
    have ev_7 : v_7 = nI (x % 2) := ev_7.trans (pk_rem (d := 2) (by omega) (by omega) (by omega))
    subst ev_7
    refine lv_if_ne (tgt := 22) hx hb dX0_isPrime_8 (by decide) (fun c_8 => ?_) (fun c_8 => ?_)
    · have hod : x % 2 = 1 := by
        rcases (show x % 2 = 0 ∨ x % 2 = 1 by omega) with q | q
        · exact absurd (by rw [q]; rfl) c_8
        · exact q
      refine lv_iconst (v := 3) hx hb dX0_isPrime_22 (by decide) ?_
      refine lv_istore_n (lv' := [(1, .int 3), (0, .int (nI x))]) hx hb dX0_isPrime_23 rfl hl (by decide) rfl (fun ls hl => ?_)
      refine dk_isPrime_loop hx hb hown hts x (by omega) hx9 hod (fun hp pc ls hpc => ?_) (fun hp ls => ?_) 46340 3 ls (by omega) (by omega) (by omega) (by omega) (fun d2 q1 q2 q3 => absurd q3 (by omega)) (lv_sub hl [1, 0] rfl)
      · rcases hpc with rfl | rfl
        · exact W.zret (v := 1) (ty := .boolean) hx hb hr rfl (fun t ht hW => ⟨_, rfl, Or.inl ⟨rfl, hp⟩, ht⟩) (fun q h => nomatch h) dX0_isPrime_38
        · exact W.zret (v := 1) (ty := .boolean) hx hb hr rfl (fun t ht hW => ⟨_, rfl, Or.inl ⟨rfl, hp⟩, ht⟩) (fun q h => nomatch h) dX0_isPrime_54
      · exact W.zret (v := 0) (ty := .boolean) hx hb hr rfl (fun t ht hW => ⟨_, rfl, Or.inr ⟨rfl, hp⟩, ht⟩) (fun q h => nomatch h) dX0_isPrime_46
    · have hev : x % 2 = 0 := (nI_eq (by omega) (by omega)).mp c_8
      refine lv_iload_n hx hb dX0_isPrime_11 rfl (lv_at hl 0 rfl) ?_
      refine lv_iconst (v := 2) hx hb dX0_isPrime_12 (by decide) ?_
      refine lv_icmp_ne (tgt := 20) hx hb dX0_isPrime_13 (by decide) (fun c_13 => ?_) (fun c_13 => ?_)
      · have hn2 : ¬ x = 2 := fun q => c_13 (by rw [q]; rfl)
        have hp : ¬ dk_pr x := fun q => by
          have q1 := q.1
          first
            | omega
            | exact q.2 2 (by omega) (by omega) hev
        refine lv_iconst (v := 0) hx hb dX0_isPrime_20 (by decide) ?_
        exact W.zret (v := 0) (ty := .boolean) hx hb hr rfl (fun t ht hW => ⟨_, rfl, Or.inr ⟨rfl, hp⟩, ht⟩) (fun q h => nomatch h) dX0_isPrime_21
      · have hn2 : x = 2 := (nI_eq (by omega) (by omega)).mp c_13
        have hp : dk_pr x := ⟨by omega, fun d q1 q2 => by omega⟩
        refine lv_iconst (v := 1) hx hb dX0_isPrime_16 (by decide) ?_
        refine lv_goto (tgt := 21) hx hb dX0_isPrime_17 (by decide) ?_
        exact W.zret (v := 1) (ty := .boolean) hx hb hr rfl (fun t ht hW => ⟨_, rfl, Or.inl ⟨rfl, hp⟩, ht⟩) (fun q h => nomatch h) dX0_isPrime_21
