set_option maxHeartbeats 4000000 in
set_option maxRecDepth 100000 in
theorem dk_c_inverse (l : Launch) (a9 q9 : Nat) (ha9 : a9 < 2147483648) (hq0 : 2 ≤ q9) (hq9 : q9 < 2147483648) : Met l yX0_inverse wsX0_inverse ({ frames := 1, cells := 0, slots := 0, locals := 25 }) (va_Pc [.int (nI a9), .int (nI q9)] (fun _ => True)) (vp_Si (fun r9 => r9 = nI (a9 ^ (q9 - 2) % q9))) 0 0 (fun _ => False) := by
  refine Met.ofW (cc := cX0_inverse) (maxL := 2) (ret := (some .int)) (by decide) rfl ?_
  intro p e s m args below meth c s₁ B hml hv
  obtain ⟨rfl, -⟩ := hv
  have hx := B.exec
  have hb := B.bytes
  have hr := B.returns
  have hts := atoms_spec (ws := wsX0_inverse) B.pre
  have hown : s.vm.findClass RX0 = some m.cls := findClass_of_methodNamed B.named
  have hlocks := B.notSynchronized
  have hl := lv_entry ([.int (nI a9), .int (nI q9)]) (n := 2) (Nat.le_of_ble_eq_true rfl)
  rw [lg_entry_eq]
  generalize (lg_sl ([.int (nI a9), .int (nI q9)]) ++ List.replicate (2 - (lg_sl ([.int (nI a9), .int (nI q9)])).length) Slot.unset).toArray = ls at hl ⊢
  have hl : lv_has ls 2 [(0, .int (nI a9)), (1, .int (nI q9))] := hl
  refine lv_iload_n hx hb dX0_inverse_0 rfl (lv_at hl 0 rfl) ?_
  refine lv_iload_n hx hb dX0_inverse_1 rfl (lv_at hl 1 rfl) ?_
  refine lv_iconst (v := 2) hx hb dX0_inverse_2 (by decide) ?_
  refine lv_isub hx hb dX0_inverse_3 ?_
  refine lv_topi (fun v_3 ev_3 => ?_)
  have ev_3 : v_3 = nI (q9 - 2) := ev_3.trans (pk_sub (b := 2) hq0)
  subst ev_3
  refine lv_iload_n hx hb dX0_inverse_4 rfl (lv_at hl 1 rfl) ?_
  refine vp_callSi (W.runS (As := [.int (nI a9), .int (nI (q9 - 2)), .int (nI q9)]) (rest := []) ⟨hx, hb, hml, hown, hts⟩ (dk_c_power l a9 (q9 - 2) q9 ha9 (by omega) hq0 hq9) (va_cwS 3 hts gX0_inverse_X0_power rfl rfl rfl (by decide +kernel) ⟨Nat.le_of_ble_eq_true rfl, Nat.le_of_ble_eq_true rfl⟩) ⟨fun _ _ _ _ q9 => q9, fun U hU hW => ⟨rfl, trivial⟩⟩ rfl rfl hl.1 rfl (lv_room (Nat.le_of_ble_eq_true rfl)) dX0_inverse_5 ⟨Nat.le_of_ble_eq_true rfl, Nat.le_of_ble_eq_true rfl⟩) (fun r_5 hr_5 => ?_)
  subst hr_5
  exact W.iret (v := (nI (a9 ^ (q9 - 2) % q9))) hx hb hr (fun t ht hW => ⟨_, rfl, rfl, ht⟩) (fun q h => nomatch h) dX0_inverse_8

set_option maxHeartbeats 4000000 in
set_option maxRecDepth 100000 in
theorem dk_c_orderFrom (l : Launch) (sd : Int64) : Met l yX0_orderFrom wsX0_orderFrom ({ frames := 1, cells := 0, slots := 0, locals := 25 }) (va_Pc [.long sd] (fun _ => True)) (vp_Si (fun r9 => r9 = nI (dk_q sd))) 0 0 (fun _ => False) := by
  refine Met.ofW (cc := cX0_orderFrom) (maxL := 2) (ret := (some .int)) (by decide) rfl ?_
  intro p e s m args below meth c s₁ B hml hv
  obtain ⟨rfl, -⟩ := hv
  have hx := B.exec
  have hb := B.bytes
  have hr := B.returns
  have hts := atoms_spec (ws := wsX0_orderFrom) B.pre
  have hown : s.vm.findClass RX0 = some m.cls := findClass_of_methodNamed B.named
  have hlocks := B.notSynchronized
  have hl := lv_entry ([.long sd]) (n := 2) (Nat.le_of_ble_eq_true rfl)
  rw [lg_entry_eq]
  generalize (lg_sl ([.long sd]) ++ List.replicate (2 - (lg_sl ([.long sd])).length) Slot.unset).toArray = ls at hl ⊢
  have hl : lv_has ls 2 [(0, .long sd)] := hl
  refine lv_sipush (v := 16385) hx hb dX0_orderFrom_0 (by decide) ?_
  refine lv_iconst (v := 2) hx hb dX0_orderFrom_3 (by decide) ?_
  refine lv_lload_n hx hb dX0_orderFrom_4 rfl (lv_at hl 0 rfl) ?_
  refine lv_lconst (v := 0) hx hb dX0_orderFrom_5 (by decide) ?_
  refine vp_callSl (W.runS (As := [.long sd, .long 0]) (rest := [.int 2, .int 16385]) ⟨hx, hb, hml, hown, hts⟩ (dk_c_mix l sd 0) (va_cwS 2 hts gX0_orderFrom_X0_mix rfl rfl rfl (by decide +kernel) ⟨Nat.le_of_ble_eq_true rfl, Nat.le_of_ble_eq_true rfl⟩) ⟨fun _ _ _ _ q9 => q9, fun U hU hW => ⟨rfl, trivial⟩⟩ rfl rfl hl.1 rfl (lv_room (Nat.le_of_ble_eq_true rfl)) dX0_orderFrom_6 ⟨Nat.le_of_ble_eq_true rfl, Nat.le_of_ble_eq_true rfl⟩) (fun r_6 hr_6 => ?_)
  subst hr_6
  refine lv_bipush (v := 51) hx hb dX0_orderFrom_9 (by decide) ?_
  refine lv_lushr hx hb dX0_orderFrom_11 rfl ?_
  refine lv_topl (fun v_11 ev_11 => ?_)
  have ev_11 : v_11 = lN (dk_hN sd 0 / 2251799813685248) := ev_11.trans (dk_hus sd 0 (k := 51) (by decide))
  subst ev_11
  refine lv_l2i hx hb dX0_orderFrom_12 rfl ?_
  refine lv_topi (fun v_12 ev_12 => ?_)
  have ev_12 : v_12 = nI (dk_hN sd 0 / 2251799813685248) := ev_12.trans (lN_i _)
  subst ev_12
  refine lv_imul hx hb dX0_orderFrom_13 ?_
  refine lv_topi (fun v_13 ev_13 => ?_)
  have ev_13 : v_13 = nI (2 * (dk_hN sd 0 / 2251799813685248)) := ev_13.trans (pk_mul 2 _)
  subst ev_13
  refine lv_iadd hx hb dX0_orderFrom_14 ?_
  refine lv_topi (fun v_14 ev_14 => ?_)
  have ev_14 : v_14 = nI (dk_q sd) := ev_14.trans (nI_add 16385 _)
  subst ev_14
  exact W.iret (v := (nI (dk_q sd))) hx hb hr (fun t ht hW => ⟨_, rfl, rfl, ht⟩) (fun q h => nomatch h) dX0_orderFrom_15

set_option maxHeartbeats 4000000 in
set_option maxRecDepth 100000 in
theorem dk_c_fieldTry (l : Launch) (sd : Int64) (n9 : Nat) (hn9 : n9 < 64) : Met l yX0_fieldTry wsX0_fieldTry ({ frames := 1, cells := 0, slots := 0, locals := 25 }) (va_Pc [.long sd, .int (nI (dk_q sd)), .int (nI n9)] (fun _ => True)) (vp_Si (fun r9 => r9 = nI (dk_try sd n9))) 0 0 (fun _ => False) := by
  refine Met.ofW (cc := cX0_fieldTry) (maxL := 6) (ret := (some .int)) (by decide) rfl ?_
  intro p e s m args below meth c s₁ B hml hv
  obtain ⟨rfl, -⟩ := hv
  have hx := B.exec
  have hb := B.bytes
  have hr := B.returns
  have hts := atoms_spec (ws := wsX0_fieldTry) B.pre
  have hown : s.vm.findClass RX0 = some m.cls := findClass_of_methodNamed B.named
  have hlocks := B.notSynchronized
  have hl := lv_entry ([.long sd, .int (nI (dk_q sd)), .int (nI n9)]) (n := 6) (Nat.le_of_ble_eq_true rfl)
  rw [lg_entry_eq]
  generalize (lg_sl ([.long sd, .int (nI (dk_q sd)), .int (nI n9)]) ++ List.replicate (6 - (lg_sl ([.long sd, .int (nI (dk_q sd)), .int (nI n9)])).length) Slot.unset).toArray = ls at hl ⊢
  have hl : lv_has ls 6 [(0, .long sd), (2, .int (nI (dk_q sd))), (3, .int (nI n9))] := hl
  have hq := dk_q_in sd
  have hX9 := dk_X_in sd n9
  refine lv_ldc2 (v := 1073741824) hx hb hown (hts (.constantLong RX0 135 1073741824) (by decide +kernel)) dX0_fieldTry_0 ?_
  refine lv_lload_n hx hb dX0_fieldTry_3 rfl (lv_at hl 0 rfl) ?_
  refine lv_iconst (v := 1) hx hb dX0_fieldTry_4 (by decide) ?_
  refine lv_iload_n hx hb dX0_fieldTry_5 rfl (lv_at hl 2 rfl) ?_
  refine lv_iadd hx hb dX0_fieldTry_6 ?_
  refine lv_topi (fun v_6 ev_6 => ?_)
  have ev_6 : v_6 = nI (1 + n9) := ev_6.trans (nI_add 1 n9)
  subst ev_6
  refine lv_i2l hx hb dX0_fieldTry_7 rfl ?_
  refine lv_topl (fun v_7 ev_7 => ?_)
  have ev_7 : v_7 = lN (1 + n9) := ev_7.trans (nI_l (by omega))
  subst ev_7
  refine vp_callSl (W.runS (As := [.long sd, .long (lN (1 + n9))]) (rest := [.long 1073741824]) ⟨hx, hb, hml, hown, hts⟩ (dk_c_mix l sd (lN (1 + n9))) (va_cwS 2 hts gX0_fieldTry_X0_mix rfl rfl rfl (by decide +kernel) ⟨Nat.le_of_ble_eq_true rfl, Nat.le_of_ble_eq_true rfl⟩) ⟨fun _ _ _ _ q9 => q9, fun U hU hW => ⟨rfl, trivial⟩⟩ rfl rfl hl.1 rfl (lv_room (Nat.le_of_ble_eq_true rfl)) dX0_fieldTry_8 ⟨Nat.le_of_ble_eq_true rfl, Nat.le_of_ble_eq_true rfl⟩) (fun r_8 hr_8 => ?_)
  subst hr_8
  refine lv_bipush (v := 34) hx hb dX0_fieldTry_11 (by decide) ?_
  refine lv_lushr hx hb dX0_fieldTry_13 rfl ?_
  refine lv_topl (fun v_13 ev_13 => ?_)
  have ev_13 : v_13 = lN (dk_hN sd (lN (1 + n9)) / 17179869184) := ev_13.trans (dk_hus sd _ (k := 34) (by decide))
  subst ev_13
  refine lv_ladd hx hb dX0_fieldTry_14 ?_
  refine lv_topl (fun v_14 ev_14 => ?_)
  have ev_14 : v_14 = lN (dk_X sd n9) := ev_14.trans (lN_add 1073741824 _)
  subst ev_14
  refine lv_lstore (lv' := [(4, .long (lN (dk_X sd n9))), (0, .long sd), (2, .int (nI (dk_q sd))), (3, .int (nI n9))]) hx hb dX0_fieldTry_15 hl (by decide) rfl (fun ls hl => ?_)
  refine lv_lload hx hb dX0_fieldTry_17 (lv_at hl 0 rfl) ?_
  refine lv_lload hx hb dX0_fieldTry_19 (lv_at hl 0 rfl) ?_
  refine lv_iconst (v := 2) hx hb dX0_fieldTry_21 (by decide) ?_
  refine lv_iload_n hx hb dX0_fieldTry_22 rfl (lv_at hl 2 rfl) ?_
  refine lv_imul hx hb dX0_fieldTry_23 ?_
  refine lv_topi (fun v_23 ev_23 => ?_)
  have ev_23 : v_23 = nI (2 * dk_q sd) := ev_23.trans (pk_mul 2 _)
  subst ev_23
  refine lv_i2l hx hb dX0_fieldTry_24 rfl ?_
  refine lv_topl (fun v_24 ev_24 => ?_)
  have ev_24 : v_24 = lN (2 * dk_q sd) := ev_24.trans (nI_l (by omega))
  subst ev_24
  refine lv_lrem hx hb dX0_fieldTry_25 (dk_lne (by omega) (by omega)) ?_
  refine lv_topl (fun v_25 ev_25 => ?_)
  have ev_25 : v_25 = lN (dk_X sd n9 % (2 * dk_q sd)) := ev_25.trans (pk_lRem (by omega) (by omega) (by omega))
  subst ev_25
  refine lv_lsub hx hb dX0_fieldTry_26 ?_
  refine lv_topl (fun v_26 ev_26 => ?_)
  have ev_26 : v_26 = lN (dk_X sd n9 - dk_X sd n9 % (2 * dk_q sd)) := ev_26.trans (lN_sub (Nat.mod_le _ _))
  subst ev_26
  refine lv_lconst (v := 1) hx hb dX0_fieldTry_27 (by decide) ?_
  refine lv_ladd hx hb dX0_fieldTry_28 ?_
  refine lv_topl (fun v_28 ev_28 => ?_)
  have ev_28 : v_28 = lN (dk_try sd n9) := ev_28.trans (lN_1 _)
  subst ev_28
  refine lv_l2i hx hb dX0_fieldTry_29 rfl ?_
  refine lv_topi (fun v_29 ev_29 => ?_)
  have ev_29 : v_29 = nI (dk_try sd n9) := ev_29.trans (lN_i _)
  subst ev_29
  exact W.iret (v := (nI (dk_try sd n9))) hx hb hr (fun t ht hW => ⟨_, rfl, rfl, ht⟩) (fun q h => nomatch h) dX0_fieldTry_30

set_option maxHeartbeats 4000000 in
set_option maxRecDepth 100000 in
theorem dk_counterFrom_loop {p : Program} {l : Launch} {e : Env} {s : State} {m : MethodId} {args : Array Value} {below : List Frame} {meth : Method} {c : Code} {H : Heap} {locs : List Loc} {cells slots : Nat} {Q : State → Prop} (hx : p.tables.exec = Jvm.exec) (hb : c.code = cX0_counterFrom) (hml : c.maxLocals = 5) (hown : s.vm.findClass RX0 = some m.cls) (hts : ∀ w ∈ wsX0_counterFrom, w.before args s = true) (hcs : cells ≤ 0 ∧ slots ≤ 0) (sd : Int64) (k1 : ∀ (pc : Nat) (r : Int32) (ls : Array Slot), (pc = 46 ∧ ∃ k9, k9 < 64 ∧ dk_ok sd k9 ∧ (∀ j, j < k9 → ¬ dk_ok sd j) ∧ r = nI k9) ∨ (pc = 55 ∧ (∀ j, j < 64 → ¬ dk_ok sd j) ∧ r = -2) → W p l e (headSpec wsX0_counterFrom ({ frames := 2, cells := 0, slots := 0, locals := 50 })).room s m args below meth c H locs cells slots Q (F0 m pc ls [.int r])) :
    ∀ (n k9 : Nat) (ls : Array Slot), 65 ≤ k9 + n → k9 ≤ 64 → (∀ j, j < k9 → ¬ dk_ok sd j) → lv_has ls 5 [(0, .long sd), (2, .int (nI (dk_q sd))), (3, .int (nI k9))] → W p l e (headSpec wsX0_counterFrom ({ frames := 2, cells := 0, slots := 0, locals := 50 })).room s m args below meth c H locs cells slots Q (F0 m 16 ls []) := by
  obtain ⟨hcs1, hcs2⟩ := hcs
  have e1 : cells = 0 := by omega
  have e2 : slots = 0 := by omega
  subst e1 e2
  intro n
  induction n with
  | zero =>
    intro k9 ls h1 h2
    exact absurd h1 (by omega)
  | succ n ih =>
    intro k9 ls h1 h2 h3 hl
    refine lv_iload_n hx hb dX0_counterFrom_16 rfl (lv_at hl 2 rfl) ?_
    refine lv_bipush (v := 64) hx hb dX0_counterFrom_17 (by decide) ?_
    refine lv_icmp_ge (tgt := 53) hx hb dX0_counterFrom_19 (by decide) (fun c_19 => ?_) (fun c_19 => ?_)
    · have hk9 : 64 ≤ k9 := (nI_leI (by omega) (by omega)).mp c_19
      refine lv_bipush (v := (-2)) hx hb dX0_counterFrom_53 (by decide) ?_
      exact k1 55 _ ls (Or.inr ⟨rfl, fun j hj => h3 j (by omega), rfl⟩)
    · have hk9 : k9 < 64 := by
        rcases Nat.lt_or_ge k9 64 with q | q
        · exact q
        · exact absurd ((nI_leI (a := 64) (b := k9) (by omega) (by omega)).mpr q) c_19
      have htr := dk_try_in sd k9
      refine lv_lload_n hx hb dX0_counterFrom_22 rfl (lv_at hl 0 rfl) ?_
      refine lv_iload_n hx hb dX0_counterFrom_23 rfl (lv_at hl 1 rfl) ?_
      refine lv_iload_n hx hb dX0_counterFrom_24 rfl (lv_at hl 2 rfl) ?_
      refine vp_callSi (W.runS (As := [.long sd, .int (nI (dk_q sd)), .int (nI k9)]) (rest := []) ⟨hx, hb, hml, hown, hts⟩ (dk_c_fieldTry l sd k9 hk9) (va_cwS 3 hts gX0_counterFrom_X0_fieldTry rfl rfl rfl (by decide +kernel) ⟨Nat.le_of_ble_eq_true rfl, Nat.le_of_ble_eq_true rfl⟩) ⟨fun _ _ _ _ q9 => q9, fun U hU hW => ⟨rfl, trivial⟩⟩ rfl rfl hl.1 rfl (lv_room (Nat.le_of_ble_eq_true rfl)) dX0_counterFrom_25 ⟨Nat.le_of_ble_eq_true rfl, Nat.le_of_ble_eq_true rfl⟩) (fun r_25 hr_25 => ?_)
      subst hr_25
      refine lv_istore (lv' := [(4, .int (nI (dk_try sd k9))), (0, .long sd), (2, .int (nI (dk_q sd))), (3, .int (nI k9))]) hx hb dX0_counterFrom_28 hl (by decide) rfl (fun ls hl => ?_)
      refine lv_iload hx hb dX0_counterFrom_30 (lv_at hl 0 rfl) ?_
      refine lv_ldc (v := 1073741824) hx hb hown (hts (.constant RX0 134 1073741824) (by decide +kernel)) dX0_counterFrom_32 ?_
      refine lv_icmp_le (tgt := 47) hx hb dX0_counterFrom_34 (by decide) (fun c_34 => ?_) (fun c_34 => ?_)
      · have hno : ¬ dk_ok sd k9 := fun q => by
          have q1 := (nI_leI (a := dk_try sd k9) (b := 1073741824) (by omega) (by omega)).mp c_34
          have q2 := q.1
          omega
        refine lv_iinc (v := (nI (k9 + 1))) (lv' := [(3, .int (nI (k9 + 1))), (4, .int (nI (dk_try sd k9))), (0, .long sd), (2, .int (nI (dk_q sd)))]) hx hb dX0_counterFrom_47 hl (k := 3) rfl (nI_1 k9) (by decide) rfl (fun ls hl => ?_)
        refine lv_goto (tgt := 16) hx hb dX0_counterFrom_50 (by decide) ?_
        exact ih (k9 + 1) ls (by omega) (by omega) (fun j hj => if q : j < k9 then h3 j q else by rw [show j = k9 by omega]; exact hno) (lv_sub hl [2, 3, 0] rfl)
      · have hgt : 1073741824 < dk_try sd k9 := by
          rcases Nat.lt_or_ge 1073741824 (dk_try sd k9) with q | q
          · exact q
          · exact absurd ((nI_leI (a := dk_try sd k9) (b := 1073741824) (by omega) (by omega)).mpr q) c_34
        refine lv_iload hx hb dX0_counterFrom_37 (lv_at hl 0 rfl) ?_
        refine vp_callSi (W.runS (As := [.int (nI (dk_try sd k9))]) (rest := []) ⟨hx, hb, hml, hown, hts⟩ (dk_c_isPrime l (dk_try sd k9) htr.2) (va_cwS 1 hts gX0_counterFrom_X0_isPrime rfl rfl rfl (by decide +kernel) ⟨Nat.le_of_ble_eq_true rfl, Nat.le_of_ble_eq_true rfl⟩) ⟨fun _ _ _ _ q9 => q9, fun U hU hW => ⟨rfl, trivial⟩⟩ rfl rfl hl.1 rfl (lv_room (Nat.le_of_ble_eq_true rfl)) dX0_counterFrom_39 ⟨Nat.le_of_ble_eq_true rfl, Nat.le_of_ble_eq_true rfl⟩) (fun r_39 hr_39 => ?_)
        refine lv_if_eq (tgt := 47) hx hb dX0_counterFrom_42 (by decide) (fun c_42 => ?_) (fun c_42 => ?_)
        · have hno : ¬ dk_ok sd k9 := fun q => by
            rcases hr_39 with ⟨q1, -⟩ | ⟨-, q1⟩
            · rw [q1] at c_42; exact absurd c_42 (by decide)
            · exact q1 q.2
          refine lv_iinc (v := (nI (k9 + 1))) (lv' := [(3, .int (nI (k9 + 1))), (4, .int (nI (dk_try sd k9))), (0, .long sd), (2, .int (nI (dk_q sd)))]) hx hb dX0_counterFrom_47 hl (k := 3) rfl (nI_1 k9) (by decide) rfl (fun ls hl => ?_)
          refine lv_goto (tgt := 16) hx hb dX0_counterFrom_50 (by decide) ?_
          exact ih (k9 + 1) ls (by omega) (by omega) (fun j hj => if q : j < k9 then h3 j q else by rw [show j = k9 by omega]; exact hno) (lv_sub hl [2, 3, 0] rfl)
        · have hok : dk_ok sd k9 := by
            rcases hr_39 with ⟨-, q1⟩ | ⟨q1, -⟩
            · exact ⟨hgt, q1⟩
            · exact absurd q1 c_42
          refine lv_iload_n hx hb dX0_counterFrom_45 rfl (lv_at hl 3 rfl) ?_
          exact k1 46 _ ls (Or.inl ⟨rfl, k9, hk9, hok, h3, rfl⟩)

set_option maxHeartbeats 4000000 in
set_option maxRecDepth 100000 in
theorem dk_c_counterFrom (l : Launch) (sd : Int64) : Met l yX0_counterFrom wsX0_counterFrom ({ frames := 2, cells := 0, slots := 0, locals := 50 }) (va_Pc [.long sd] (fun _ => True)) (vp_Si (fun r9 => dk_Mk sd r9)) 0 0 (fun _ => False) := by
  refine Met.ofW (cc := cX0_counterFrom) (maxL := 5) (ret := (some .int)) (by decide) rfl ?_
  intro p e s m args below meth c s₁ B hml hv
  obtain ⟨rfl, -⟩ := hv
  have hx := B.exec
  have hb := B.bytes
  have hr := B.returns
  have hts := atoms_spec (ws := wsX0_counterFrom) B.pre
  have hown : s.vm.findClass RX0 = some m.cls := findClass_of_methodNamed B.named
  have hlocks := B.notSynchronized
  have hl := lv_entry ([.long sd]) (n := 5) (Nat.le_of_ble_eq_true rfl)
  rw [lg_entry_eq]
  generalize (lg_sl ([.long sd]) ++ List.replicate (5 - (lg_sl ([.long sd])).length) Slot.unset).toArray = ls at hl ⊢
  have hl : lv_has ls 5 [(0, .long sd)] := hl
  refine lv_lload_n hx hb dX0_counterFrom_0 rfl (lv_at hl 0 rfl) ?_
  refine vp_callSi (W.runS (As := [.long sd]) (rest := []) ⟨hx, hb, hml, hown, hts⟩ (dk_c_orderFrom l sd) (va_cwS 1 hts gX0_counterFrom_X0_orderFrom rfl rfl rfl (by decide +kernel) ⟨Nat.le_of_ble_eq_true rfl, Nat.le_of_ble_eq_true rfl⟩) ⟨fun _ _ _ _ q9 => q9, fun U hU hW => ⟨rfl, trivial⟩⟩ rfl rfl hl.1 rfl (lv_room (Nat.le_of_ble_eq_true rfl)) dX0_counterFrom_1 ⟨Nat.le_of_ble_eq_true rfl, Nat.le_of_ble_eq_true rfl⟩) (fun r_1 hr_1 => ?_)
  subst hr_1
  refine lv_istore_n (lv' := [(2, .int (nI (dk_q sd))), (0, .long sd)]) hx hb dX0_counterFrom_4 rfl hl (by decide) rfl (fun ls hl => ?_)
  refine lv_iload_n hx hb dX0_counterFrom_5 rfl (lv_at hl 0 rfl) ?_
  refine vp_callSi (W.runS (As := [.int (nI (dk_q sd))]) (rest := []) ⟨hx, hb, hml, hown, hts⟩ (dk_c_isPrime l (dk_q sd) (by have := dk_q_in sd; omega)) (va_cwS 1 hts gX0_counterFrom_X0_isPrime rfl rfl rfl (by decide +kernel) ⟨Nat.le_of_ble_eq_true rfl, Nat.le_of_ble_eq_true rfl⟩) ⟨fun _ _ _ _ q9 => q9, fun U hU hW => ⟨rfl, trivial⟩⟩ rfl rfl hl.1 rfl (lv_room (Nat.le_of_ble_eq_true rfl)) dX0_counterFrom_6 ⟨Nat.le_of_ble_eq_true rfl, Nat.le_of_ble_eq_true rfl⟩) (fun r_6 hr_6 => ?_)
  refine lv_if_ne (tgt := 14) hx hb dX0_counterFrom_9 (by decide) (fun c_9 => ?_) (fun c_9 => ?_)
  · have hpq : dk_pr (dk_q sd) := by
      rcases hr_6 with ⟨-, q⟩ | ⟨q, -⟩
      · exact q
      · exact absurd q c_9
    refine lv_iconst (v := 0) hx hb dX0_counterFrom_14 (by decide) ?_
    refine lv_istore_n (lv' := [(3, .int 0), (2, .int (nI (dk_q sd))), (0, .long sd)]) hx hb dX0_counterFrom_15 rfl hl (by decide) rfl (fun ls hl => ?_)
    refine dk_counterFrom_loop hx hb hml hown hts ⟨Nat.le_refl _, Nat.le_refl _⟩ sd (fun pc r ls hpc => ?_) 65 0 ls (by omega) (by omega) (fun j hj => absurd hj (by omega)) (lv_sub hl [2, 1, 0] rfl)
    rcases hpc with ⟨rfl, k9, q1, q2, q3, rfl⟩ | ⟨rfl, q1, rfl⟩
    · exact W.iret (v := (nI k9)) hx hb hr (fun t ht hW => ⟨_, rfl, Or.inr (Or.inl ⟨hpq, k9, q1, q2, q3, rfl⟩), ht⟩) (fun q h => nomatch h) dX0_counterFrom_46
    · exact W.iret (v := (-2)) hx hb hr (fun t ht hW => ⟨_, rfl, Or.inr (Or.inr ⟨hpq, q1, rfl⟩), ht⟩) (fun q h => nomatch h) dX0_counterFrom_55
  · have hpq : ¬ dk_pr (dk_q sd) := by
      rcases hr_6 with ⟨q, -⟩ | ⟨-, q⟩
      · rw [q] at c_9; exact absurd c_9 (by decide)
      · exact q
    refine lv_iconst (v := (-1)) hx hb dX0_counterFrom_12 (by decide) ?_
    exact W.iret (v := (-1)) hx hb hr (fun t ht hW => ⟨_, rfl, Or.inl ⟨hpq, rfl⟩, ht⟩) (fun q h => nomatch h) dX0_counterFrom_13

set_option maxHeartbeats 4000000 in
set_option maxRecDepth 100000 in
theorem dk_c_isSlot (l : Launch) (x : Int32) : Met l yX0_isSlot wsX0_isSlot ({ frames := 0, cells := 0, slots := 0, locals := 0 }) (va_Pc [.int x] (fun _ => True)) (vp_Si (fun r9 => (r9 = 1 ∧ ∃ j : Nat, j < 8 ∧ x = nI j) ∨ (r9 = 0 ∧ ¬ ∃ j : Nat, j < 8 ∧ x = nI j))) 0 0 (fun _ => False) := by
  refine Met.ofW (cc := cX0_isSlot) (maxL := 1) (ret := (some .boolean)) (by decide) rfl ?_
  intro p e s m args below meth c s₁ B hml hv
  obtain ⟨rfl, -⟩ := hv
  have hx := B.exec
  have hb := B.bytes
  have hr := B.returns
  have hts := atoms_spec (ws := wsX0_isSlot) B.pre
  have hown : s.vm.findClass RX0 = some m.cls := findClass_of_methodNamed B.named
  have hlocks := B.notSynchronized
  have hl := lv_entry ([.int x]) (n := 1) (Nat.le_of_ble_eq_true rfl)
  rw [lg_entry_eq]
  generalize (lg_sl ([.int x]) ++ List.replicate (1 - (lg_sl ([.int x])).length) Slot.unset).toArray = ls at hl ⊢
  have hl : lv_has ls 1 [(0, .int x)] := hl
  refine lv_iload_n hx hb dX0_isSlot_0 rfl (lv_at hl 0 rfl) ?_
  refine lv_if_lt (tgt := 14) hx hb dX0_isSlot_1 (by decide) (fun c_1 => ?_) (fun c_1 => ?_)
  · have hno : ¬ ∃ j : Nat, j < 8 ∧ x = nI j := fun ⟨j, q1, q2⟩ => by rw [q2] at c_1; exact nI_pos (by omega) c_1
    refine lv_iconst (v := 0) hx hb dX0_isSlot_14 (by decide) ?_
    exact W.zret (v := 0) (ty := .boolean) hx hb hr rfl (fun t ht hW => ⟨_, rfl, Or.inr ⟨rfl, hno⟩, ht⟩) (fun q h => nomatch h) dX0_isSlot_15
  · refine lv_iload_n hx hb dX0_isSlot_4 rfl (lv_at hl 0 rfl) ?_
    refine lv_bipush (v := 8) hx hb dX0_isSlot_5 (by decide) ?_
    refine lv_icmp_ge (tgt := 14) hx hb dX0_isSlot_7 (by decide) (fun c_7 => ?_) (fun c_7 => ?_)
    · have hno : ¬ ∃ j : Nat, j < 8 ∧ x = nI j := fun ⟨j, q1, q2⟩ => by rw [q2] at c_7; exact nI_ge (a := j) (b := 8) q1 (by decide) c_7
      refine lv_iconst (v := 0) hx hb dX0_isSlot_14 (by decide) ?_
      exact W.zret (v := 0) (ty := .boolean) hx hb hr rfl (fun t ht hW => ⟨_, rfl, Or.inr ⟨rfl, hno⟩, ht⟩) (fun q h => nomatch h) dX0_isSlot_15
    · have hyes : ∃ j : Nat, j < 8 ∧ x = nI j := by
        rcases pk_ix x (n := 8) (by decide) with q | q | q
        · exact absurd q c_1
        · exact absurd q c_7
        · exact q
      refine lv_iconst (v := 1) hx hb dX0_isSlot_10 (by decide) ?_
      refine lv_goto (tgt := 15) hx hb dX0_isSlot_11 (by decide) ?_
      exact W.zret (v := 1) (ty := .boolean) hx hb hr rfl (fun t ht hW => ⟨_, rfl, Or.inl ⟨rfl, hyes⟩, ht⟩) (fun q h => nomatch h) dX0_isSlot_15

def dk_dom (P Q G : Nat) : Prop := dk_pr P ∧ dk_pr Q ∧ 3 ≤ Q ∧ (P - 1) % Q = 0 ∧ 2 ≤ G ∧ G < P ∧ G ^ Q % P = 1
def dk_domI (x y z : Int32) : Prop := ∃ P Q G : Nat, P < 2147483648 ∧ Q < 2147483648 ∧ x = nI P ∧ y = nI Q ∧ z = nI G ∧ dk_dom P Q G

set_option maxHeartbeats 4000000 in
set_option maxRecDepth 100000 in
theorem dk_c_isDomain (l : Launch) (x y z : Int32) : Met l yX0_isDomain wsX0_isDomain ({ frames := 1, cells := 0, slots := 0, locals := 25 }) (va_Pc [.int x, .int y, .int z] (fun _ => True)) (vp_Si (fun r9 => (r9 = 1 ∧ dk_domI x y z) ∨ (r9 = 0 ∧ ¬ dk_domI x y z))) 0 0 (fun _ => False) := by
  refine Met.ofW (cc := cX0_isDomain) (maxL := 3) (ret := (some .boolean)) (by decide) rfl ?_
  intro p e s m args below meth c s₁ B hml hv
  obtain ⟨rfl, -⟩ := hv
  have hx := B.exec
  have hb := B.bytes
  have hr := B.returns
  have hts := atoms_spec (ws := wsX0_isDomain) B.pre
  have hown : s.vm.findClass RX0 = some m.cls := findClass_of_methodNamed B.named
  have hlocks := B.notSynchronized
  have hl := lv_entry ([.int x, .int y, .int z]) (n := 3) (Nat.le_of_ble_eq_true rfl)
  rw [lg_entry_eq]
  generalize (lg_sl ([.int x, .int y, .int z]) ++ List.replicate (3 - (lg_sl ([.int x, .int y, .int z])).length) Slot.unset).toArray = ls at hl ⊢
  have hl : lv_has ls 3 [(0, .int x), (1, .int y), (2, .int z)] := hl
  refine lv_iload_n hx hb dX0_isDomain_0 rfl (lv_at hl 1 rfl) ?_
  refine lv_iconst (v := 3) hx hb dX0_isDomain_1 (by decide) ?_
  refine lv_icmp_lt (tgt := 15) hx hb dX0_isDomain_2 (by decide) (fun c_2 => ?_) (fun c_2 => ?_)
  · have hno : ¬ dk_domI x y z := fun ⟨P1, Q1, G1, z1, z2, e1, e2, e3, d1, d2, d3, d4, d5, d6, d7⟩ => by
      rw [e2] at c_2
      have := (nI_ltI (a := Q1) (b := 3) z2 (by decide)).mp c_2
      omega
    refine lv_iconst (v := 0) hx hb dX0_isDomain_15 (by decide) ?_
    exact W.zret (v := 0) (ty := .boolean) hx hb hr rfl (fun t ht hW => ⟨_, rfl, Or.inr ⟨rfl, hno⟩, ht⟩) (fun q h => nomatch h) dX0_isDomain_16
  · refine lv_iload_n hx hb dX0_isDomain_5 rfl (lv_at hl 2 rfl) ?_
    refine lv_iconst (v := 2) hx hb dX0_isDomain_6 (by decide) ?_
    refine lv_icmp_lt (tgt := 15) hx hb dX0_isDomain_7 (by decide) (fun c_7 => ?_) (fun c_7 => ?_)
    · have hno : ¬ dk_domI x y z := fun ⟨P1, Q1, G1, z1, z2, e1, e2, e3, d1, d2, d3, d4, d5, d6, d7⟩ => by
        rw [e3] at c_7
        have := (nI_ltI (a := G1) (b := 2) (by omega) (by decide)).mp c_7
        omega
      refine lv_iconst (v := 0) hx hb dX0_isDomain_15 (by decide) ?_
      exact W.zret (v := 0) (ty := .boolean) hx hb hr rfl (fun t ht hW => ⟨_, rfl, Or.inr ⟨rfl, hno⟩, ht⟩) (fun q h => nomatch h) dX0_isDomain_16
    · refine lv_iload_n hx hb dX0_isDomain_10 rfl (lv_at hl 2 rfl) ?_
      refine lv_iload_n hx hb dX0_isDomain_11 rfl (lv_at hl 0 rfl) ?_
      refine lv_icmp_lt (tgt := 17) hx hb dX0_isDomain_12 (by decide) (fun c_12 => ?_) (fun c_12 => ?_)
      · obtain ⟨Q9, hQ9, rfl⟩ := nI_of (x := y) (fun q => c_2 (Int32.lt_of_lt_of_le q (by decide)))
        obtain ⟨G, hG9, rfl⟩ := nI_of (x := z) (fun q => c_7 (Int32.lt_of_lt_of_le q (by decide)))
        obtain ⟨P, hP9, rfl⟩ := nI_of (x := x) (fun q => nI_pos hG9 (Int32.lt_trans c_12 q))
        have hQ3 : 3 ≤ Q9 := by
          rcases Nat.lt_or_ge Q9 3 with q | q
          · exact absurd ((nI_ltI (b := 3) hQ9 (by decide)).mpr q) c_2
          · exact q
        have hG2 : 2 ≤ G := by
          rcases Nat.lt_or_ge G 2 with q | q
          · exact absurd ((nI_ltI (b := 2) hG9 (by decide)).mpr q) c_7
          · exact q
        have hGP : G < P := (nI_ltI hG9 hP9).mp c_12
        refine lv_iload_n hx hb dX0_isDomain_17 rfl (lv_at hl 0 rfl) ?_
        refine lv_iconst (v := 1) hx hb dX0_isDomain_18 (by decide) ?_
        refine lv_isub hx hb dX0_isDomain_19 ?_
        refine lv_topi (fun v_19 ev_19 => ?_)
        have ev_19 : v_19 = nI (P - 1) := ev_19.trans (pk_sub (b := 1) (by omega))
        subst ev_19
        refine lv_iload_n hx hb dX0_isDomain_20 rfl (lv_at hl 1 rfl) ?_
        refine lv_irem hx hb dX0_isDomain_21 (nI_ne0 (by omega) hQ9) ?_
        refine lv_topi (fun v_21 ev_21 => ?_)
        have ev_21 : v_21 = nI ((P - 1) % Q9) := ev_21.trans (pk_rem (by omega) (by omega) hQ9)
        subst ev_21
        refine lv_if_ne (tgt := 53) hx hb dX0_isDomain_22 (by decide) (fun c_22 => ?_) (fun c_22 => ?_)
        · have hno : ¬ dk_domI (nI P) (nI Q9) (nI G) := fun ⟨P1, Q1, G1, z1, z2, e1, e2, e3, d1, d2, d3, d4, d5, d6, d7⟩ => by
            have f1 : P1 = P := (nI_eq z1 hP9).mp e1.symm
            have f2 : Q1 = Q9 := (nI_eq z2 hQ9).mp e2.symm
            have f3 : G1 = G := (nI_eq (by omega) hG9).mp e3.symm
            subst f1 f2 f3
            exact c_22 (by rw [d4]; rfl)
          refine lv_iconst (v := 0) hx hb dX0_isDomain_53 (by decide) ?_
          exact W.zret (v := 0) (ty := .boolean) hx hb hr rfl (fun t ht hW => ⟨_, rfl, Or.inr ⟨rfl, hno⟩, ht⟩) (fun q h => nomatch h) dX0_isDomain_54
        · have hlt : (P - 1) % Q9 < Q9 := Nat.mod_lt _ (by omega)
          have h22 : (P - 1) % Q9 = 0 := (nI_eq (by omega) (by decide)).mp c_22
          refine lv_iload_n hx hb dX0_isDomain_25 rfl (lv_at hl 1 rfl) ?_
          refine vp_callSi (W.runS (As := [.int (nI Q9)]) (rest := []) ⟨hx, hb, hml, hown, hts⟩ (dk_c_isPrime l Q9 hQ9) (va_cwS 1 hts gX0_isDomain_X0_isPrime rfl rfl rfl (by decide +kernel) ⟨Nat.le_of_ble_eq_true rfl, Nat.le_of_ble_eq_true rfl⟩) ⟨fun _ _ _ _ q9 => q9, fun U hU hW => ⟨rfl, trivial⟩⟩ rfl rfl hl.1 rfl (lv_room (Nat.le_of_ble_eq_true rfl)) dX0_isDomain_26 ⟨Nat.le_of_ble_eq_true rfl, Nat.le_of_ble_eq_true rfl⟩) (fun r_26 hr_26 => ?_)
          refine lv_if_eq (tgt := 53) hx hb dX0_isDomain_29 (by decide) (fun c_29 => ?_) (fun c_29 => ?_)
          · have hno : ¬ dk_domI (nI P) (nI Q9) (nI G) := fun ⟨P1, Q1, G1, z1, z2, e1, e2, e3, d1, d2, d3, d4, d5, d6, d7⟩ => by
              have f1 : P1 = P := (nI_eq z1 hP9).mp e1.symm
              have f2 : Q1 = Q9 := (nI_eq z2 hQ9).mp e2.symm
              have f3 : G1 = G := (nI_eq (by omega) hG9).mp e3.symm
              subst f1 f2 f3
              rcases hr_26 with ⟨q1, -⟩ | ⟨-, q1⟩
              · rw [q1] at c_29; exact absurd c_29 (by decide)
              · exact q1 d2
            refine lv_iconst (v := 0) hx hb dX0_isDomain_53 (by decide) ?_
            exact W.zret (v := 0) (ty := .boolean) hx hb hr rfl (fun t ht hW => ⟨_, rfl, Or.inr ⟨rfl, hno⟩, ht⟩) (fun q h => nomatch h) dX0_isDomain_54
          · have h29 : dk_pr Q9 := by
              rcases hr_26 with ⟨-, q1⟩ | ⟨q1, -⟩
              · exact q1
              · exact absurd q1 c_29
            refine lv_iload_n hx hb dX0_isDomain_32 rfl (lv_at hl 0 rfl) ?_
            refine vp_callSi (W.runS (As := [.int (nI P)]) (rest := []) ⟨hx, hb, hml, hown, hts⟩ (dk_c_isPrime l P hP9) (va_cwS 1 hts gX0_isDomain_X0_isPrime rfl rfl rfl (by decide +kernel) ⟨Nat.le_of_ble_eq_true rfl, Nat.le_of_ble_eq_true rfl⟩) ⟨fun _ _ _ _ q9 => q9, fun U hU hW => ⟨rfl, trivial⟩⟩ rfl rfl hl.1 rfl (lv_room (Nat.le_of_ble_eq_true rfl)) dX0_isDomain_33 ⟨Nat.le_of_ble_eq_true rfl, Nat.le_of_ble_eq_true rfl⟩) (fun r_33 hr_33 => ?_)
            refine lv_if_eq (tgt := 53) hx hb dX0_isDomain_36 (by decide) (fun c_36 => ?_) (fun c_36 => ?_)
            · have hno : ¬ dk_domI (nI P) (nI Q9) (nI G) := fun ⟨P1, Q1, G1, z1, z2, e1, e2, e3, d1, d2, d3, d4, d5, d6, d7⟩ => by
                have f1 : P1 = P := (nI_eq z1 hP9).mp e1.symm
                have f2 : Q1 = Q9 := (nI_eq z2 hQ9).mp e2.symm
                have f3 : G1 = G := (nI_eq (by omega) hG9).mp e3.symm
                subst f1 f2 f3
                rcases hr_33 with ⟨q1, -⟩ | ⟨-, q1⟩
                · rw [q1] at c_36; exact absurd c_36 (by decide)
                · exact q1 d1
              refine lv_iconst (v := 0) hx hb dX0_isDomain_53 (by decide) ?_
              exact W.zret (v := 0) (ty := .boolean) hx hb hr rfl (fun t ht hW => ⟨_, rfl, Or.inr ⟨rfl, hno⟩, ht⟩) (fun q h => nomatch h) dX0_isDomain_54
            · have h36 : dk_pr P := by
                rcases hr_33 with ⟨-, q1⟩ | ⟨q1, -⟩
                · exact q1
                · exact absurd q1 c_36
              refine lv_iload_n hx hb dX0_isDomain_39 rfl (lv_at hl 2 rfl) ?_
              refine lv_iload_n hx hb dX0_isDomain_40 rfl (lv_at hl 1 rfl) ?_
              refine lv_iload_n hx hb dX0_isDomain_41 rfl (lv_at hl 0 rfl) ?_
              refine vp_callSi (W.runS (As := [.int (nI G), .int (nI Q9), .int (nI P)]) (rest := []) ⟨hx, hb, hml, hown, hts⟩ (dk_c_power l G Q9 P hG9 hQ9 (by omega) hP9) (va_cwS 3 hts gX0_isDomain_X0_power rfl rfl rfl (by decide +kernel) ⟨Nat.le_of_ble_eq_true rfl, Nat.le_of_ble_eq_true rfl⟩) ⟨fun _ _ _ _ q9 => q9, fun U hU hW => ⟨rfl, trivial⟩⟩ rfl rfl hl.1 rfl (lv_room (Nat.le_of_ble_eq_true rfl)) dX0_isDomain_42 ⟨Nat.le_of_ble_eq_true rfl, Nat.le_of_ble_eq_true rfl⟩) (fun r_42 hr_42 => ?_)
              subst hr_42
              refine lv_iconst (v := 1) hx hb dX0_isDomain_45 (by decide) ?_
              refine lv_icmp_ne (tgt := 53) hx hb dX0_isDomain_46 (by decide) (fun c_46 => ?_) (fun c_46 => ?_)
              · have hno : ¬ dk_domI (nI P) (nI Q9) (nI G) := fun ⟨P1, Q1, G1, z1, z2, e1, e2, e3, d1, d2, d3, d4, d5, d6, d7⟩ => by
                  have f1 : P1 = P := (nI_eq z1 hP9).mp e1.symm
                  have f2 : Q1 = Q9 := (nI_eq z2 hQ9).mp e2.symm
                  have f3 : G1 = G := (nI_eq (by omega) hG9).mp e3.symm
                  subst f1 f2 f3
                  exact c_46 (by rw [d7]; rfl)
                refine lv_iconst (v := 0) hx hb dX0_isDomain_53 (by decide) ?_
                exact W.zret (v := 0) (ty := .boolean) hx hb hr rfl (fun t ht hW => ⟨_, rfl, Or.inr ⟨rfl, hno⟩, ht⟩) (fun q h => nomatch h) dX0_isDomain_54
              · have hlt2 : G ^ Q9 % P < P := Nat.mod_lt _ (by omega)
                have hyes : dk_domI (nI P) (nI Q9) (nI G) := ⟨P, Q9, G, hP9, hQ9, rfl, rfl, rfl, h36, h29, hQ3, h22, hG2, hGP, (nI_eq (by omega) (by decide)).mp c_46⟩
                refine lv_iconst (v := 1) hx hb dX0_isDomain_49 (by decide) ?_
                refine lv_goto (tgt := 54) hx hb dX0_isDomain_50 (by decide) ?_
                exact W.zret (v := 1) (ty := .boolean) hx hb hr rfl (fun t ht hW => ⟨_, rfl, Or.inl ⟨rfl, hyes⟩, ht⟩) (fun q h => nomatch h) dX0_isDomain_54
      · have hno : ¬ dk_domI x y z := fun ⟨P1, Q1, G1, z1, z2, e1, e2, e3, d1, d2, d3, d4, d5, d6, d7⟩ => by
          rw [e1, e3] at c_12
          exact c_12 ((nI_ltI (by omega) z1).mpr d6)
        refine lv_iconst (v := 0) hx hb dX0_isDomain_15 (by decide) ?_
        exact W.zret (v := 0) (ty := .boolean) hx hb hr rfl (fun t ht hW => ⟨_, rfl, Or.inr ⟨rfl, hno⟩, ht⟩) (fun q h => nomatch h) dX0_isDomain_16

set_option maxHeartbeats 4000000 in
set_option maxRecDepth 100000 in
theorem dk_generatorFrom_loop {p : Program} {l : Launch} {e : Env} {s : State} {m : MethodId} {args : Array Value} {below : List Frame} {meth : Method} {c : Code} {H : Heap} {locs : List Loc} {cells slots : Nat} {Q : State → Prop} (cs : Int64) (P Q9 ix : Nat) (hP0 : 2 ≤ P) (hP9 : P < 2147483648) (hQ0 : 1 ≤ Q9) (hQ9 : Q9 < 2147483648) (hix : ix < 256) (hx : p.tables.exec = Jvm.exec) (hb : c.code = cX0_generatorFrom) (hml : c.maxLocals = 7) (hown : s.vm.findClass RX0 = some m.cls) (hts : ∀ w ∈ wsX0_generatorFrom, w.before args s = true) (hcs : cells ≤ 0 ∧ slots ≤ 0) (k1 : ∀ (pc : Nat) (r : Int32) (ls : Array Slot), (pc = 42 ∨ pc = 50) → dk_Gn cs ix P Q9 r → W p l e (headSpec wsX0_generatorFrom ({ frames := 1, cells := 0, slots := 0, locals := 25 })).room s m args below meth c H locs cells slots Q (F0 m pc ls [.int r])) :
    ∀ (n k9 : Nat) (ls : Array Slot), 102 ≤ k9 + n → 1 ≤ k9 → k9 ≤ 101 → (∀ j, 1 ≤ j → j < k9 → ¬ 1 < dk_g cs ix P Q9 j) → lv_has ls 7 [(0, .long (dk_H cs (lN (100 + ix)))), (2, .int (nI P)), (3, .int (nI ((P - 1) / Q9))), (4, .int (nI k9))] → W p l e (headSpec wsX0_generatorFrom ({ frames := 1, cells := 0, slots := 0, locals := 25 })).room s m args below meth c H locs cells slots Q (F0 m 3 ls []) := by
  obtain ⟨hcs1, hcs2⟩ := hcs
  have e1 : cells = 0 := by omega
  have e2 : slots = 0 := by omega
  subst e1 e2
  intro n
  induction n with
  | zero =>
    intro k9 ls h1 h2 h3
    exact absurd h1 (by omega)
  | succ n ih =>
    intro k9 ls h1 h2 h3 h4 hl
    have hg : dk_g cs ix P Q9 k9 < P := Nat.mod_lt _ (by omega)
    have hw9 : dk_w cs ix P k9 < P := Nat.mod_lt _ (by omega)
    have hcf : (P - 1) / Q9 ≤ P - 1 := Nat.div_le_self _ _
    have hhl := dk_hN_lt (dk_H cs (lN (100 + ix))) (lN k9)
    refine lv_iload hx hb dX0_generatorFrom_3 (lv_at hl 3 rfl) ?_
    refine lv_bipush (v := 100) hx hb dX0_generatorFrom_5 (by decide) ?_
    refine lv_icmp_gt (tgt := 49) hx hb dX0_generatorFrom_7 (by decide) (fun c_7 => ?_) (fun c_7 => ?_)
    · have hk9 : 100 < k9 := (nI_ltI (by omega) (by omega)).mp c_7
      refine lv_iconst (v := 1) hx hb dX0_generatorFrom_49 (by decide) ?_
      exact k1 50 _ ls (Or.inr rfl) (Or.inr ⟨fun j q1 q2 => h4 j q1 (by omega), rfl⟩)
    · have hk9 : k9 ≤ 100 := by
        rcases Nat.lt_or_ge 100 k9 with q | q
        · exact absurd ((nI_ltI (a := 100) (b := k9) (by omega) (by omega)).mpr q) c_7
        · exact q
      refine lv_lload_n hx hb dX0_generatorFrom_10 rfl (lv_at hl 0 rfl) ?_
      refine lv_iload hx hb dX0_generatorFrom_11 (lv_at hl 3 rfl) ?_
      refine lv_i2l hx hb dX0_generatorFrom_13 rfl ?_
      refine lv_topl (fun v_13 ev_13 => ?_)
      have ev_13 : v_13 = lN k9 := ev_13.trans (nI_l (by omega))
      subst ev_13
      refine vp_callSl (W.runS (As := [.long (dk_H cs (lN (100 + ix))), .long (lN k9)]) (rest := []) ⟨hx, hb, hml, hown, hts⟩ (dk_c_mix l (dk_H cs (lN (100 + ix))) (lN k9)) (va_cwS 2 hts gX0_generatorFrom_X0_mix rfl rfl rfl (by decide +kernel) ⟨Nat.le_of_ble_eq_true rfl, Nat.le_of_ble_eq_true rfl⟩) ⟨fun _ _ _ _ q9 => q9, fun U hU hW => ⟨rfl, trivial⟩⟩ rfl rfl hl.1 rfl (lv_room (Nat.le_of_ble_eq_true rfl)) dX0_generatorFrom_14 ⟨Nat.le_of_ble_eq_true rfl, Nat.le_of_ble_eq_true rfl⟩) (fun r_14 hr_14 => ?_)
      subst hr_14
      refine lv_iconst (v := 1) hx hb dX0_generatorFrom_17 (by decide) ?_
      refine lv_lushr hx hb dX0_generatorFrom_18 rfl ?_
      refine lv_topl (fun v_18 ev_18 => ?_)
      have ev_18 : v_18 = lN (dk_hN (dk_H cs (lN (100 + ix))) (lN k9) / 2) := ev_18.trans (dk_hus _ _ (k := 1) (by decide))
      subst ev_18
      refine lv_iload_n hx hb dX0_generatorFrom_19 rfl (lv_at hl 1 rfl) ?_
      refine lv_i2l hx hb dX0_generatorFrom_20 rfl ?_
      refine lv_topl (fun v_20 ev_20 => ?_)
      have ev_20 : v_20 = lN P := ev_20.trans (nI_l (by omega))
      subst ev_20
      refine lv_lrem hx hb dX0_generatorFrom_21 (dk_lne (by omega) (by omega)) ?_
      refine lv_topl (fun v_21 ev_21 => ?_)
      have ev_21 : v_21 = lN (dk_w cs ix P k9) := ev_21.trans (pk_lRem (by omega) (by omega) (by omega))
      subst ev_21
      refine lv_l2i hx hb dX0_generatorFrom_22 rfl ?_
      refine lv_topi (fun v_22 ev_22 => ?_)
      have ev_22 : v_22 = nI (dk_w cs ix P k9) := ev_22.trans (lN_i _)
      subst ev_22
      refine lv_istore (lv' := [(5, .int (nI (dk_w cs ix P k9))), (0, .long (dk_H cs (lN (100 + ix)))), (2, .int (nI P)), (3, .int (nI ((P - 1) / Q9))), (4, .int (nI k9))]) hx hb dX0_generatorFrom_23 hl (by decide) rfl (fun ls hl => ?_)
      refine lv_iload hx hb dX0_generatorFrom_25 (lv_at hl 0 rfl) ?_
      refine lv_iload_n hx hb dX0_generatorFrom_27 rfl (lv_at hl 3 rfl) ?_
      refine lv_iload_n hx hb dX0_generatorFrom_28 rfl (lv_at hl 2 rfl) ?_
      refine vp_callSi (W.runS (As := [.int (nI (dk_w cs ix P k9)), .int (nI ((P - 1) / Q9)), .int (nI P)]) (rest := []) ⟨hx, hb, hml, hown, hts⟩ (dk_c_power l (dk_w cs ix P k9) ((P - 1) / Q9) P (by omega) (by omega) hP0 hP9) (va_cwS 3 hts gX0_generatorFrom_X0_power rfl rfl rfl (by decide +kernel) ⟨Nat.le_of_ble_eq_true rfl, Nat.le_of_ble_eq_true rfl⟩) ⟨fun _ _ _ _ q9 => q9, fun U hU hW => ⟨rfl, trivial⟩⟩ rfl rfl hl.1 rfl (lv_room (Nat.le_of_ble_eq_true rfl)) dX0_generatorFrom_29 ⟨Nat.le_of_ble_eq_true rfl, Nat.le_of_ble_eq_true rfl⟩) (fun r_29 hr_29 => ?_)
      subst hr_29
      refine lv_istore (lv' := [(6, .int (nI (dk_g cs ix P Q9 k9))), (5, .int (nI (dk_w cs ix P k9))), (0, .long (dk_H cs (lN (100 + ix)))), (2, .int (nI P)), (3, .int (nI ((P - 1) / Q9))), (4, .int (nI k9))]) hx hb dX0_generatorFrom_32 hl (by decide) rfl (fun ls hl => ?_)
      refine lv_iload hx hb dX0_generatorFrom_34 (lv_at hl 0 rfl) ?_
      refine lv_iconst (v := 1) hx hb dX0_generatorFrom_36 (by decide) ?_
      refine lv_icmp_le (tgt := 43) hx hb dX0_generatorFrom_37 (by decide) (fun c_37 => ?_) (fun c_37 => ?_)
      · have hno : ¬ 1 < dk_g cs ix P Q9 k9 := fun q => by
          have := (nI_leI (b := 1) (by omega) (by omega)).mp c_37
          omega
        refine lv_iinc (v := (nI (k9 + 1))) (lv' := [(4, .int (nI (k9 + 1))), (6, .int (nI (dk_g cs ix P Q9 k9))), (5, .int (nI (dk_w cs ix P k9))), (0, .long (dk_H cs (lN (100 + ix)))), (2, .int (nI P)), (3, .int (nI ((P - 1) / Q9)))]) hx hb dX0_generatorFrom_43 hl (k := 5) rfl (nI_1 k9) (by decide) rfl (fun ls hl => ?_)
        refine lv_goto (tgt := 3) hx hb dX0_generatorFrom_46 (by decide) ?_
        exact ih (k9 + 1) ls (by omega) (by omega) (by omega) (fun j q1 q2 => if q : j < k9 then h4 j q1 q else by rw [show j = k9 by omega]; exact hno) (lv_sub hl [3, 4, 5, 0] rfl)
      · have hyes : 1 < dk_g cs ix P Q9 k9 := by
          rcases Nat.lt_or_ge 1 (dk_g cs ix P Q9 k9) with q | q
          · exact q
          · exact absurd ((nI_leI (a := dk_g cs ix P Q9 k9) (b := 1) (by omega) (by omega)).mpr q) c_37
        refine lv_iload hx hb dX0_generatorFrom_40 (lv_at hl 0 rfl) ?_
        exact k1 42 _ ls (Or.inl rfl) (Or.inl ⟨k9, h2, hk9, hyes, h4, rfl⟩)

set_option maxHeartbeats 4000000 in
set_option maxRecDepth 100000 in
theorem dk_c_generatorFrom (l : Launch) (cs : Int64) (P Q9 ix : Nat) (hP0 : 2 ≤ P) (hP9 : P < 2147483648) (hQ0 : 1 ≤ Q9) (hQ9 : Q9 < 2147483648) (hix : ix < 256) : Met l yX0_generatorFrom wsX0_generatorFrom ({ frames := 1, cells := 0, slots := 0, locals := 25 }) (va_Pc [.long (dk_H cs (lN (100 + ix))), .int (nI P), .int (nI ((P - 1) / Q9))] (fun _ => True)) (vp_Si (fun r9 => dk_Gn cs ix P Q9 r9)) 0 0 (fun _ => False) := by
  refine Met.ofW (cc := cX0_generatorFrom) (maxL := 7) (ret := (some .int)) (by decide) rfl ?_
  intro p e s m args below meth c s₁ B hml hv
  obtain ⟨rfl, -⟩ := hv
  have hx := B.exec
  have hb := B.bytes
  have hr := B.returns
  have hts := atoms_spec (ws := wsX0_generatorFrom) B.pre
  have hown : s.vm.findClass RX0 = some m.cls := findClass_of_methodNamed B.named
  have hlocks := B.notSynchronized
  have hl := lv_entry ([.long (dk_H cs (lN (100 + ix))), .int (nI P), .int (nI ((P - 1) / Q9))]) (n := 7) (Nat.le_of_ble_eq_true rfl)
  rw [lg_entry_eq]
  generalize (lg_sl ([.long (dk_H cs (lN (100 + ix))), .int (nI P), .int (nI ((P - 1) / Q9))]) ++ List.replicate (7 - (lg_sl ([.long (dk_H cs (lN (100 + ix))), .int (nI P), .int (nI ((P - 1) / Q9))])).length) Slot.unset).toArray = ls at hl ⊢
  have hl : lv_has ls 7 [(0, .long (dk_H cs (lN (100 + ix)))), (2, .int (nI P)), (3, .int (nI ((P - 1) / Q9)))] := hl
  refine lv_iconst (v := 1) hx hb dX0_generatorFrom_0 (by decide) ?_
  refine lv_istore (lv' := [(4, .int 1), (0, .long (dk_H cs (lN (100 + ix)))), (2, .int (nI P)), (3, .int (nI ((P - 1) / Q9)))]) hx hb dX0_generatorFrom_1 hl (by decide) rfl (fun ls hl => ?_)
  refine dk_generatorFrom_loop cs P Q9 ix hP0 hP9 hQ0 hQ9 hix hx hb hml hown hts ⟨Nat.le_refl _, Nat.le_refl _⟩ (fun pc r ls hpc hgn => ?_) 101 1 ls (by omega) (by omega) (by omega) (fun j q1 q2 => absurd q2 (by omega)) (lv_sub hl [1, 2, 3, 0] rfl)
  rcases hpc with rfl | rfl
  · exact W.iret (v := r) hx hb hr (fun t ht hW => ⟨_, rfl, hgn, ht⟩) (fun q h => nomatch h) dX0_generatorFrom_42
  · exact W.iret (v := r) hx hb hr (fun t ht hW => ⟨_, rfl, hgn, ht⟩) (fun q h => nomatch h) dX0_generatorFrom_50
