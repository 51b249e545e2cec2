set_option maxHeartbeats 4000000 in
set_option maxRecDepth 100000 in
theorem dk_m_h (l : Launch) (a b : Int64) : Met l yX1_h wsX1_h ({ frames := 0, cells := 0, slots := 0, locals := 0 }) (va_Pc [.long a, .long b] (fun _ => True)) (vp_Sl (fun r9 => r9 = dk_H a b)) 0 0 (fun _ => False) := by
  refine Met.ofW (cc := cX1_h) (maxL := 6) (ret := (some .long)) (by decide) rfl ?_
  intro p e s m args below meth c s₁ B hml hv
  obtain ⟨rfl, -⟩ := hv
  have hx := B.exec
  have hb := B.bytes
  have hr := B.returns
  have hts := atoms_spec (ws := wsX1_h) B.pre
  have hown : s.vm.findClass RX1 = some m.cls := findClass_of_methodNamed B.named
  have hlocks := B.notSynchronized
  have hl := lv_entry ([.long a, .long b]) (n := 6) (Nat.le_of_ble_eq_true rfl)
  rw [lg_entry_eq]
  generalize (lg_sl ([.long a, .long b]) ++ List.replicate (6 - (lg_sl ([.long a, .long b])).length) Slot.unset).toArray = ls at hl ⊢
  have hl : lv_has ls 6 [(0, .long a), (2, .long b)] := hl
  refine lv_lload_n hx hb dX1_h_0 rfl (lv_at hl 0 rfl) ?_
  refine lv_ldc2 (v := 1442695040888963407) hx hb hown (hts (.constantLong RX1 17 1442695040888963407) (by decide +kernel)) dX1_h_1 ?_
  refine lv_lxor hx hb dX1_h_4 ?_
  refine lv_ldc2 (v := 6364136223846793005) hx hb hown (hts (.constantLong RX1 19 6364136223846793005) (by decide +kernel)) dX1_h_5 ?_
  refine lv_lmul hx hb dX1_h_8 ?_
  refine lv_lload_n hx hb dX1_h_9 rfl (lv_at hl 1 rfl) ?_
  refine lv_ladd hx hb dX1_h_10 ?_
  refine lv_topl (fun v_10 ev_10 => ?_)
  have ev_10 : v_10 = dk_h1 a b := ev_10.trans rfl
  subst ev_10
  refine lv_lstore (lv' := [(4, .long (dk_h1 a b)), (0, .long a), (2, .long b)]) hx hb dX1_h_11 hl (by decide) rfl (fun ls hl => ?_)
  refine lv_lload hx hb dX1_h_13 (lv_at hl 0 rfl) ?_
  refine lv_lload hx hb dX1_h_15 (lv_at hl 0 rfl) ?_
  refine lv_bipush (v := 32) hx hb dX1_h_17 (by decide) ?_
  refine lv_lushr hx hb dX1_h_19 rfl ?_
  refine lv_lxor hx hb dX1_h_20 ?_
  refine lv_topl (fun v_20 ev_20 => ?_)
  have ev_20 : v_20 = dk_h2 (dk_h1 a b) := ev_20.trans rfl
  subst ev_20
  refine lv_lstore (lv' := [(4, .long (dk_h2 (dk_h1 a b))), (0, .long a), (2, .long b)]) hx hb dX1_h_21 hl (by decide) rfl (fun ls hl => ?_)
  refine lv_lload hx hb dX1_h_23 (lv_at hl 0 rfl) ?_
  refine lv_ldc2 (v := 2862933555777941757) hx hb hown (hts (.constantLong RX1 21 2862933555777941757) (by decide +kernel)) dX1_h_25 ?_
  refine lv_lmul hx hb dX1_h_28 ?_
  refine lv_topl (fun v_28 ev_28 => ?_)
  have ev_28 : v_28 = dk_h3 (dk_h2 (dk_h1 a b)) := ev_28.trans rfl
  subst ev_28
  refine lv_lstore (lv' := [(4, .long (dk_h3 (dk_h2 (dk_h1 a b)))), (0, .long a), (2, .long b)]) hx hb dX1_h_29 hl (by decide) rfl (fun ls hl => ?_)
  refine lv_lload hx hb dX1_h_31 (lv_at hl 0 rfl) ?_
  refine lv_lload hx hb dX1_h_33 (lv_at hl 0 rfl) ?_
  refine lv_bipush (v := 29) hx hb dX1_h_35 (by decide) ?_
  refine lv_lushr hx hb dX1_h_37 rfl ?_
  refine lv_lxor hx hb dX1_h_38 ?_
  refine lv_topl (fun v_38 ev_38 => ?_)
  have ev_38 : v_38 = dk_H a b := ev_38.trans rfl
  subst ev_38
  exact W.lret (v := (dk_H a b)) hx hb hr (fun t ht hW => ⟨_, rfl, rfl, ht⟩) (fun q h => nomatch h) dX1_h_39

set_option maxHeartbeats 4000000 in
set_option maxRecDepth 100000 in
theorem dk_m_digestOf (l : Launch) (a : Int64) : Met l yX1_digestOf wsX1_digestOf ({ frames := 1, cells := 0, slots := 0, locals := 25 }) (va_Pc [.long a] (fun _ => True)) (vp_Sl (fun r9 => r9 = lN (dk_hN a 3 / 562949953421312))) 0 0 (fun _ => False) := by
  refine Met.ofW (cc := cX1_digestOf) (maxL := 2) (ret := (some .long)) (by decide) rfl ?_
  intro p e s m args below meth c s₁ B hml hv
  obtain ⟨rfl, -⟩ := hv
  have hx := B.exec
  have hb := B.bytes
  have hr := B.returns
  have hts := atoms_spec (ws := wsX1_digestOf) B.pre
  have hown : s.vm.findClass RX1 = some m.cls := findClass_of_methodNamed B.named
  have hlocks := B.notSynchronized
  have hl := lv_entry ([.long a]) (n := 2) (Nat.le_of_ble_eq_true rfl)
  rw [lg_entry_eq]
  generalize (lg_sl ([.long a]) ++ List.replicate (2 - (lg_sl ([.long a])).length) Slot.unset).toArray = ls at hl ⊢
  have hl : lv_has ls 2 [(0, .long a)] := hl
  refine lv_lload_n hx hb dX1_digestOf_0 rfl (lv_at hl 0 rfl) ?_
  refine lv_ldc2 (v := 3) hx hb hown (hts (.constantLong RX1 23 3) (by decide +kernel)) dX1_digestOf_1 ?_
  refine vp_callSl (W.runS (As := [.long a, .long 3]) (rest := []) ⟨hx, hb, hml, hown, hts⟩ (dk_m_h l a 3) (va_cwS 2 hts gX1_digestOf_X1_h rfl rfl rfl (by decide +kernel) ⟨Nat.le_of_ble_eq_true rfl, Nat.le_of_ble_eq_true rfl⟩) ⟨fun _ _ _ _ q9 => q9, fun U hU hW => ⟨rfl, trivial⟩⟩ rfl rfl hl.1 rfl (lv_room (Nat.le_of_ble_eq_true rfl)) dX1_digestOf_4 ⟨Nat.le_of_ble_eq_true rfl, Nat.le_of_ble_eq_true rfl⟩) (fun r_4 hr_4 => ?_)
  subst hr_4
  refine lv_bipush (v := 49) hx hb dX1_digestOf_7 (by decide) ?_
  refine lv_lushr hx hb dX1_digestOf_9 rfl ?_
  refine lv_topl (fun v_9 ev_9 => ?_)
  have ev_9 : v_9 = lN (dk_hN a 3 / 562949953421312) := ev_9.trans (dk_hus a 3 (k := 49) (by decide))
  subst ev_9
  exact W.lret (v := (lN (dk_hN a 3 / 562949953421312))) hx hb hr (fun t ht hW => ⟨_, rfl, rfl, ht⟩) (fun q h => nomatch h) dX1_digestOf_10

set_option maxHeartbeats 4000000 in
set_option maxRecDepth 100000 in
theorem dk_prime_loop {p : Program} {l : Launch} {e : Env} {R : Room} {s : State} {m : MethodId} {args : Array Value} {below : List Frame} {meth : Method} {c : Code} {H : Heap} {locs : List Loc} {cells slots : Nat} {Q : State → Prop} (hx : p.tables.exec = Jvm.exec) (hb : c.code = cX1_prime) (hown : s.vm.findClass RX1 = some m.cls) (hts : ∀ w ∈ wsX1_prime, w.before args s = true) (x : Nat) (hx2 : 3 ≤ x) (hx9 : x < 2147483648) (hod : x % 2 = 1) (k1 : dk_pr x → ∀ (ls : Array Slot), W p l e R s m args below meth c H locs cells slots Q (F0 m 58 ls [.int 1])) (k0 : ¬ dk_pr x → ∀ ls : Array Slot, W p l e R s m args below meth c H locs cells slots Q (F0 m 47 ls [.int 0])) :
    ∀ (n d : Nat) (ls : Array Slot), 46345 ≤ d + n → 3 ≤ d → d ≤ 46343 → d % 2 = 1 → (∀ d2 : Nat, 3 ≤ d2 → d2 % 2 = 1 → d2 < d → ¬ x % d2 = 0) → lv_has ls 3 [(0, .int (nI x)), (1, .long (lN d))] → W p l e R s m args below meth c H locs cells slots Q (F0 m 28 ls []) := by
  intro n
  induction n with
  | zero =>
    intro d ls h1 h2 h3
    exact absurd h1 (by omega)
  | succ n ih =>
    intro d ls h1 h2 h3 h4 h5 hl
    have hdd : d * d ≤ 46343 * 46343 := Nat.mul_le_mul h3 h3
    refine lv_lload_n hx hb dX1_prime_28 rfl (lv_at hl 1 rfl) ?_
    refine lv_lload_n hx hb dX1_prime_29 rfl (lv_at hl 1 rfl) ?_
    refine lv_lmul hx hb dX1_prime_30 ?_
    refine lv_topl (fun v_30 ev_30 => ?_)
    have ev_30 : v_30 = lN (d * d) := ev_30.trans (lN_mul d d)
    subst ev_30
    refine lv_iload_n hx hb dX1_prime_31 rfl (lv_at hl 0 rfl) ?_
    refine lv_i2l hx hb dX1_prime_32 rfl ?_
    refine lv_topl (fun v_32 ev_32 => ?_)
    have ev_32 : v_32 = lN x := ev_32.trans (nI_l hx9)
    subst ev_32
    refine W.lcmp hx hb dX1_prime_33 ?_
    refine lv_if_gt (tgt := 57) hx hb dX1_prime_34 (by decide) (fun c_34 => ?_) (fun c_34 => ?_)
    · have hle : x < d * d := (pk_lLT (by omega) (by omega)).mp ((lg_cmp_gt _ _).mp c_34)
      have hp : dk_pr x := dk_pr_odd hx2 hod (fun d2 q1 q2 q3 => h5 d2 q1 q2 (by
        rcases Nat.lt_or_ge d2 d with q | q
        · exact q
        · have := Nat.mul_le_mul q q
          omega))
      refine lv_iconst (v := 1) hx hb dX1_prime_57 (by decide) ?_
      exact k1 hp ls
    · have hle : d * d ≤ x := by
        rcases Nat.lt_or_ge x (d * d) with q | q
        · exact absurd ((lg_cmp_gt _ _).mpr ((pk_lLT (a := x) (b := d * d) (by omega) (by omega)).mpr q)) c_34
        · exact q
      have hd9 : d ≤ 46340 := by
        rcases Nat.lt_or_ge 46340 d with q | q
        · have := Nat.mul_le_mul (show 46341 ≤ d by omega) (show 46341 ≤ d by omega)
          omega
        · exact q
      refine lv_iload_n hx hb dX1_prime_37 rfl (lv_at hl 0 rfl) ?_
      refine lv_i2l hx hb dX1_prime_38 rfl ?_
      refine lv_topl (fun v_38 ev_38 => ?_)
      have ev_38 : v_38 = lN x := ev_38.trans (nI_l hx9)
      subst ev_38
      refine lv_lload_n hx hb dX1_prime_39 rfl (lv_at hl 1 rfl) ?_
      refine lv_lrem hx hb dX1_prime_40 (dk_lne (by omega) (by omega)) ?_
      refine lv_topl (fun v_40 ev_40 => ?_)
      have ev_40 : v_40 = lN (x % d) := ev_40.trans (pk_lRem (by omega) (by omega) (by omega))
      subst ev_40
      refine lv_lconst (v := 0) hx hb dX1_prime_41 (by decide) ?_
      refine W.lcmp hx hb dX1_prime_42 ?_
      refine lv_if_ne (tgt := 48) hx hb dX1_prime_43 (by decide) (fun c_43 => ?_) (fun c_43 => ?_)
      · have hnm : ¬ x % d = 0 := fun q => c_43 ((lg_cmp_eq _ _).mpr (by rw [q]; rfl))
        refine lv_lload_n hx hb dX1_prime_48 rfl (lv_at hl 1 rfl) ?_
        refine lv_ldc2 (v := 2) hx hb hown (hts (.constantLong RX1 25 2) (by decide +kernel)) dX1_prime_49 ?_
        refine lv_ladd hx hb dX1_prime_52 ?_
        refine lv_topl (fun v_52 ev_52 => ?_)
        have ev_52 : v_52 = lN (d + 2) := ev_52.trans (lN_add d 2)
        subst ev_52
        refine lv_lstore_n (lv' := [(1, .long (lN (d + 2))), (0, .int (nI x))]) hx hb dX1_prime_53 rfl hl (by decide) rfl (fun ls hl => ?_)
        refine lv_goto (tgt := 28) hx hb dX1_prime_54 (by decide) ?_
        exact ih (d + 2) ls (by omega) (by omega) (by omega) (by omega) (fun d2 q1 q2 q3 => if q4 : d2 < d then h5 d2 q1 q2 q4 else by rw [show d2 = d by omega]; exact hnm) (lv_sub hl [1, 0] rfl)
      · have hlt : x % d < d := Nat.mod_lt _ (by omega)
        have hnm : x % d = 0 := (pk_lEQ (b := 0) (by omega) (by omega)).mp ((lg_cmp_eq _ _).mp c_43)
        refine lv_iconst (v := 0) hx hb dX1_prime_46 (by decide) ?_
        exact k0 (dk_pr_not (by omega) hle hnm) ls

set_option maxHeartbeats 4000000 in
set_option maxRecDepth 100000 in
theorem dk_m_prime (l : Launch) (x : Nat) (hx9 : x < 2147483648) : Met l yX1_prime wsX1_prime ({ frames := 0, cells := 0, slots := 0, locals := 0 }) (va_Pc [.int (nI x)] (fun _ => True)) (vp_Si (fun r9 => (r9 = 1 ∧ dk_pr x) ∨ (r9 = 0 ∧ ¬ dk_pr x))) 0 0 (fun _ => False) := by
  refine Met.ofW (cc := cX1_prime) (maxL := 3) (ret := (some .boolean)) (by decide) rfl ?_
  intro p e s m args below meth c s₁ B hml hv
  obtain ⟨rfl, -⟩ := hv
  have hx := B.exec
  have hb := B.bytes
  have hr := B.returns
  have hts := atoms_spec (ws := wsX1_prime) B.pre
  have hown : s.vm.findClass RX1 = some m.cls := findClass_of_methodNamed B.named
  have hlocks := B.notSynchronized
  have hl := lv_entry ([.int (nI x)]) (n := 3) (Nat.le_of_ble_eq_true rfl)
  rw [lg_entry_eq]
  generalize (lg_sl ([.int (nI x)]) ++ List.replicate (3 - (lg_sl ([.int (nI x)])).length) Slot.unset).toArray = ls at hl ⊢
  have hl : lv_has ls 3 [(0, .int (nI x))] := hl
  refine lv_iload_n hx hb dX1_prime_0 rfl (lv_at hl 0 rfl) ?_
  refine lv_iconst (v := 4) hx hb dX1_prime_1 (by decide) ?_
  refine lv_icmp_ge (tgt := 16) hx hb dX1_prime_2 (by decide) (fun c_2 => ?_) (fun c_2 => ?_)
  · have hge : 4 ≤ x := (nI_leI (by omega) (by omega)).mp c_2
    refine lv_iload_n hx hb dX1_prime_16 rfl (lv_at hl 0 rfl) ?_
    refine lv_iconst (v := 2) hx hb dX1_prime_17 (by decide) ?_
    refine lv_irem hx hb dX1_prime_18 (by decide) ?_
    refine lv_topi (fun v_18 ev_18 => ?_)
    have ev_18 : v_18 = nI (x % 2) := ev_18.trans (pk_rem (d := 2) (by omega) (by omega) (by omega))
    subst ev_18
    refine lv_if_ne (tgt := 24) hx hb dX1_prime_19 (by decide) (fun c_19 => ?_) (fun c_19 => ?_)
    · have hod : x % 2 = 1 := by
        rcases (show x % 2 = 0 ∨ x % 2 = 1 by omega) with q | q
        · exact absurd (by rw [q]; rfl) c_19
        · exact q
      refine lv_ldc2 (v := 3) hx hb hown (hts (.constantLong RX1 23 3) (by decide +kernel)) dX1_prime_24 ?_
      refine lv_lstore_n (lv' := [(1, .long 3), (0, .int (nI x))]) hx hb dX1_prime_27 rfl hl (by decide) rfl (fun ls hl => ?_)
      refine dk_prime_loop hx hb hown hts x (by omega) hx9 hod (fun hp ls => ?_) (fun hp ls => ?_) 46342 3 ls (by omega) (by omega) (by omega) (by omega) (fun d2 q1 q2 q3 => absurd q3 (by omega)) (lv_sub hl [1, 0] rfl)
      · exact W.zret (v := 1) (ty := .boolean) hx hb hr rfl (fun t ht hW => ⟨_, rfl, Or.inl ⟨rfl, hp⟩, ht⟩) (fun q h => nomatch h) dX1_prime_58
      · exact W.zret (v := 0) (ty := .boolean) hx hb hr rfl (fun t ht hW => ⟨_, rfl, Or.inr ⟨rfl, hp⟩, ht⟩) (fun q h => nomatch h) dX1_prime_47
    · have hev : x % 2 = 0 := (nI_eq (by omega) (by omega)).mp c_19
      have hp : ¬ dk_pr x := fun q => q.2 2 (by omega) (by omega) hev
      refine lv_iconst (v := 0) hx hb dX1_prime_22 (by decide) ?_
      exact W.zret (v := 0) (ty := .boolean) hx hb hr rfl (fun t ht hW => ⟨_, rfl, Or.inr ⟨rfl, hp⟩, ht⟩) (fun q h => nomatch h) dX1_prime_23
  · have hlt : x < 4 := by
      rcases Nat.lt_or_ge x 4 with q | q
      · exact q
      · exact absurd ((nI_leI (a := 4) (b := x) (by omega) (by omega)).mpr q) c_2
    refine lv_iload_n hx hb dX1_prime_5 rfl (lv_at hl 0 rfl) ?_
    refine lv_iconst (v := 1) hx hb dX1_prime_6 (by decide) ?_
    refine lv_icmp_le (tgt := 14) hx hb dX1_prime_7 (by decide) (fun c_7 => ?_) (fun c_7 => ?_)
    · have h1 : x ≤ 1 := (nI_leI (by omega) (by omega)).mp c_7
      have hp : ¬ dk_pr x := fun q => by
        have q1 := q.1
        omega
      refine lv_iconst (v := 0) hx hb dX1_prime_14 (by decide) ?_
      exact W.zret (v := 0) (ty := .boolean) hx hb hr rfl (fun t ht hW => ⟨_, rfl, Or.inr ⟨rfl, hp⟩, ht⟩) (fun q h => nomatch h) dX1_prime_15
    · have h1 : ¬ x ≤ 1 := fun q => c_7 ((nI_leI (a := x) (b := 1) (by omega) (by omega)).mpr q)
      have hp : dk_pr x := ⟨by omega, fun d q1 q2 => by
        rcases (show x = 3 ∧ d = 2 by omega) with ⟨rfl, rfl⟩
        decide⟩
      refine lv_iconst (v := 1) hx hb dX1_prime_10 (by decide) ?_
      refine lv_goto (tgt := 15) hx hb dX1_prime_11 (by decide) ?_
      exact W.zret (v := 1) (ty := .boolean) hx hb hr rfl (fun t ht hW => ⟨_, rfl, Or.inl ⟨rfl, hp⟩, ht⟩) (fun q h => nomatch h) dX1_prime_15

set_option maxHeartbeats 4000000 in
set_option maxRecDepth 100000 in
theorem dk_mpower_loop {p : Program} {l : Launch} {e : Env} {R : Room} {s : State} {m : MethodId} {args : Array Value} {below : List Frame} {meth : Method} {c : Code} {H : Heap} {locs : List Loc} {cells slots : Nat} {Q : State → Prop} (hx : p.tables.exec = Jvm.exec) (hb : c.code = cX1_power) (b9 e9 m9 : Nat) (hb9 : b9 < 2147483648) (he9 : e9 < 2147483648) (hm0 : 2 ≤ m9) (hm9 : m9 < 2147483648) (kk : ∀ ls : Array Slot, lv_has ls 11 [(8, .long (lN (b9 ^ e9 % m9)))] → W p l e R s m args below meth c H locs cells slots Q (F0 m 63 ls [])) :
    ∀ (n r : Nat) (ls : Array Slot), n ≤ 32 → r = b9 ^ (e9 / 2 ^ n) % m9 → lv_has ls 11 [(2, .long (lN e9)), (4, .long (lN m9)), (6, .long (lN b9)), (8, .long (lN r)), (10, .int (nI n + (-1)))] → W p l e R s m args below meth c H locs cells slots Q (F0 m 16 ls []) := by
  have hz : ¬ lN m9 = 0 := dk_lne (by omega) (by omega)
  intro n
  induction n with
  | zero =>
    intro r ls hn er hl
    refine lv_iload hx hb dX1_power_16 (lv_at hl 4 rfl) ?_
    refine lv_if_lt (tgt := 63) hx hb dX1_power_18 (by decide) (fun c_18 => ?_) (fun c_18 => ?_)
    · have er : r = b9 ^ e9 % m9 := by rw [er, Nat.pow_zero, Nat.div_one]
      subst er
      exact kk ls (lv_sub hl [3] rfl)
    · exact absurd (by decide) c_18
  | succ j ih =>
    intro r ls hn er hl
    have hrm : r < m9 := by rw [er]; exact Nat.mod_lt _ (by omega)
    rw [pk_m1] at hl
    have hrr : r * r < 9223372036854775808 := Nat.lt_of_le_of_lt (Nat.mul_le_mul (Nat.le_of_lt (Nat.lt_trans hrm hm9)) (Nat.le_of_lt (Nat.lt_trans hrm hm9))) (by decide)
    have hrm2 : r * r % m9 < m9 := Nat.mod_lt _ (by omega)
    have hrb : r * r % m9 * b9 < 9223372036854775808 := Nat.lt_of_le_of_lt (Nat.mul_le_mul (Nat.le_of_lt (Nat.lt_trans hrm2 hm9)) (Nat.le_of_lt hb9)) (by decide)
    have he2 : e9 / 2 ^ j ≤ e9 := Nat.div_le_self _ _
    refine lv_iload hx hb dX1_power_16 (lv_at hl 4 rfl) ?_
    refine lv_if_lt (tgt := 63) hx hb dX1_power_18 (by decide) (fun c_18 => ?_) (fun c_18 => ?_)
    · exact absurd c_18 (nI_pos (by omega))
    · refine lv_lload hx hb dX1_power_21 (lv_at hl 3 rfl) ?_
      refine lv_lload hx hb dX1_power_23 (lv_at hl 3 rfl) ?_
      refine lv_lmul hx hb dX1_power_25 ?_
      refine lv_topl (fun v_25 ev_25 => ?_)
      have ev_25 : v_25 = lN (r * r) := ev_25.trans (lN_mul r r)
      subst ev_25
      refine lv_lload hx hb dX1_power_26 (lv_at hl 1 rfl) ?_
      refine lv_lrem hx hb dX1_power_28 hz ?_
      refine lv_topl (fun v_28 ev_28 => ?_)
      have ev_28 : v_28 = lN (r * r % m9) := ev_28.trans (pk_lRem hrr (by omega) (by omega))
      subst ev_28
      refine lv_lstore (lv' := [(8, .long (lN (r * r % m9))), (2, .long (lN e9)), (4, .long (lN m9)), (6, .long (lN b9)), (10, .int (nI j))]) hx hb dX1_power_29 hl (by decide) rfl (fun ls hl => ?_)
      refine lv_lload_n hx hb dX1_power_31 rfl (lv_at hl 1 rfl) ?_
      refine lv_iload hx hb dX1_power_32 (lv_at hl 4 rfl) ?_
      refine lv_lshr hx hb dX1_power_34 rfl ?_
      refine lv_topl (fun v_34 ev_34 => ?_)
      have ev_34 : v_34 = lN (e9 / 2 ^ j) := ev_34.trans (pf_shr (dk_sm j (by omega)) (by omega))
      subst ev_34
      refine lv_lconst (v := 1) hx hb dX1_power_35 (by decide) ?_
      refine lv_land hx hb dX1_power_36 ?_
      refine lv_topl (fun v_36 ev_36 => ?_)
      have ev_36 : v_36 = lN (e9 / 2 ^ j % 2) := ev_36.trans (wb_a1 (by omega))
      subst ev_36
      refine lv_lconst (v := 1) hx hb dX1_power_37 (by decide) ?_
      refine W.lcmp hx hb dX1_power_38 ?_
      refine lv_if_ne (tgt := 53) hx hb dX1_power_39 (by decide) (fun c_39 => ?_) (fun c_39 => ?_)
      · have hb1 : e9 / 2 ^ j % 2 = 0 := by
          rcases (show e9 / 2 ^ j % 2 = 0 ∨ e9 / 2 ^ j % 2 = 1 by omega) with q | q
          · exact q
          · exact absurd ((lg_cmp_eq _ _).mpr (by rw [q]; rfl)) c_39
        refine lv_lload hx hb dX1_power_53 (lv_at hl 0 rfl) ?_
        refine lv_lstore (lv' := [(8, .long (lN (r * r % m9))), (2, .long (lN e9)), (4, .long (lN m9)), (6, .long (lN b9)), (10, .int (nI j))]) hx hb dX1_power_55 hl (by decide) rfl (fun ls hl => ?_)
        refine lv_iinc (v := ((nI j) + (-1))) (lv' := [(10, .int ((nI j) + (-1))), (8, .long (lN (r * r % m9))), (2, .long (lN e9)), (4, .long (lN m9)), (6, .long (lN b9))]) hx hb dX1_power_57 hl (k := 4) rfl rfl (by decide) rfl (fun ls hl => ?_)
        refine lv_goto (tgt := 16) hx hb dX1_power_60 (by decide) ?_
        exact ih (r * r % m9) ls (by omega) (by rw [dk_pw_sq er, dk_half0 hb1]) (lv_sub hl [2, 3, 4, 1, 0] rfl)
      · have hb1 : e9 / 2 ^ j % 2 = 1 := (pk_lEQ (b := 1) (by omega) (by omega)).mp ((lg_cmp_eq _ _).mp c_39)
        refine lv_lload hx hb dX1_power_42 (lv_at hl 0 rfl) ?_
        refine lv_lload hx hb dX1_power_44 (lv_at hl 3 rfl) ?_
        refine lv_lmul hx hb dX1_power_46 ?_
        refine lv_topl (fun v_46 ev_46 => ?_)
        have ev_46 : v_46 = lN (r * r % m9 * b9) := ev_46.trans (lN_mul _ _)
        subst ev_46
        refine lv_lload hx hb dX1_power_47 (lv_at hl 2 rfl) ?_
        refine lv_lrem hx hb dX1_power_49 hz ?_
        refine lv_topl (fun v_49 ev_49 => ?_)
        have ev_49 : v_49 = lN (r * r % m9 * b9 % m9) := ev_49.trans (pk_lRem hrb (by omega) (by omega))
        subst ev_49
        refine lv_goto (tgt := 55) hx hb dX1_power_50 (by decide) ?_
        refine lv_lstore (lv' := [(8, .long (lN (r * r % m9 * b9 % m9))), (2, .long (lN e9)), (4, .long (lN m9)), (6, .long (lN b9)), (10, .int (nI j))]) hx hb dX1_power_55 hl (by decide) rfl (fun ls hl => ?_)
        refine lv_iinc (v := ((nI j) + (-1))) (lv' := [(10, .int ((nI j) + (-1))), (8, .long (lN (r * r % m9 * b9 % m9))), (2, .long (lN e9)), (4, .long (lN m9)), (6, .long (lN b9))]) hx hb dX1_power_57 hl (k := 4) rfl rfl (by decide) rfl (fun ls hl => ?_)
        refine lv_goto (tgt := 16) hx hb dX1_power_60 (by decide) ?_
        exact ih (r * r % m9 * b9 % m9) ls (by omega) (by rw [dk_pw_mul (dk_pw_sq er), dk_half1 hb1]) (lv_sub hl [2, 3, 4, 1, 0] rfl)

set_option maxHeartbeats 4000000 in
set_option maxRecDepth 100000 in
theorem dk_m_power (l : Launch) (b9 e9 m9 : Nat) (hb9 : b9 < 2147483648) (he9 : e9 < 2147483648) (hm0 : 2 ≤ m9) (hm9 : m9 < 2147483648) : Met l yX1_power wsX1_power ({ frames := 0, cells := 0, slots := 0, locals := 0 }) (va_Pc [.long (lN b9), .long (lN e9), .long (lN m9)] (fun _ => True)) (vp_Sl (fun r9 => r9 = lN (b9 ^ e9 % m9))) 0 0 (fun _ => False) := by
  refine Met.ofW (cc := cX1_power) (maxL := 11) (ret := (some .long)) (by decide) rfl ?_
  intro p e s m args below meth c s₁ B hml hv
  obtain ⟨rfl, -⟩ := hv
  have hx := B.exec
  have hb := B.bytes
  have hr := B.returns
  have hts := atoms_spec (ws := wsX1_power) B.pre
  have hown : s.vm.findClass RX1 = some m.cls := findClass_of_methodNamed B.named
  have hlocks := B.notSynchronized
  have hl := lv_entry ([.long (lN b9), .long (lN e9), .long (lN m9)]) (n := 11) (Nat.le_of_ble_eq_true rfl)
  rw [lg_entry_eq]
  generalize (lg_sl ([.long (lN b9), .long (lN e9), .long (lN m9)]) ++ List.replicate (11 - (lg_sl ([.long (lN b9), .long (lN e9), .long (lN m9)])).length) Slot.unset).toArray = ls at hl ⊢
  have hl : lv_has ls 11 [(0, .long (lN b9)), (2, .long (lN e9)), (4, .long (lN m9))] := hl
  refine lv_lload_n hx hb dX1_power_0 rfl (lv_at hl 0 rfl) ?_
  refine lv_lload hx hb dX1_power_1 (lv_at hl 2 rfl) ?_
  refine lv_lrem hx hb dX1_power_3 (dk_lne (by omega) (by omega)) ?_
  refine lv_topl (fun v_3 ev_3 => ?_)
  have ev_3 : v_3 = lN (b9 % m9) := ev_3.trans (pk_lRem (by omega) (by omega) (by omega))
  subst ev_3
  refine lv_lstore (lv' := [(6, .long (lN (b9 % m9))), (0, .long (lN b9)), (2, .long (lN e9)), (4, .long (lN m9))]) hx hb dX1_power_4 hl (by decide) rfl (fun ls hl => ?_)
  refine lv_lconst (v := 1) hx hb dX1_power_6 (by decide) ?_
  refine lv_lload hx hb dX1_power_7 (lv_at hl 3 rfl) ?_
  refine lv_lrem hx hb dX1_power_9 (dk_lne (by omega) (by omega)) ?_
  refine lv_topl (fun v_9 ev_9 => ?_)
  have ev_9 : v_9 = lN 1 := ev_9.trans ((pk_lRem (a := 1) (by omega) (by omega) (by omega)).trans (by rw [Nat.mod_eq_of_lt (by omega)]))
  subst ev_9
  refine lv_lstore (lv' := [(8, .long (lN 1)), (6, .long (lN (b9 % m9))), (0, .long (lN b9)), (2, .long (lN e9)), (4, .long (lN m9))]) hx hb dX1_power_10 hl (by decide) rfl (fun ls hl => ?_)
  refine lv_bipush (v := 31) hx hb dX1_power_12 (by decide) ?_
  refine lv_istore (lv' := [(10, .int 31), (8, .long (lN 1)), (6, .long (lN (b9 % m9))), (0, .long (lN b9)), (2, .long (lN e9)), (4, .long (lN m9))]) hx hb dX1_power_14 hl (by decide) rfl (fun ls hl => ?_)
  refine dk_mpower_loop hx hb (b9 % m9) e9 m9 (Nat.lt_trans (Nat.mod_lt _ (by omega)) hm9) he9 hm0 hm9 (fun ls hl => ?_) 32 1 ls (Nat.le_refl _) (by rw [Nat.div_eq_of_lt (by omega), Nat.pow_zero, Nat.mod_eq_of_lt (by omega)]) (lv_sub hl [4, 5, 2, 1, 0] rfl)
  refine lv_lload hx hb dX1_power_63 (lv_at hl 0 rfl) ?_
  exact W.lret (v := (lN ((b9 % m9) ^ e9 % m9))) hx hb hr (fun t ht hW => ⟨_, rfl, (congrArg lN (Nat.pow_mod b9 e9 m9).symm), ht⟩) (fun q h => nomatch h) dX1_power_65
