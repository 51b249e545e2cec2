set_option maxHeartbeats 4000000 in
set_option maxRecDepth 100000 in
theorem dk_c_init (l : Launch) (dC : Nat → ClassId) (dI : Nat → Nat → Nat) (h0 : Nat) (sz : Nat) : Met l yX0_init wsX0_init ({ frames := 1, cells := 2, slots := 16, locals := 12 }) (va_Pc [.ref h0] (fun U => U.heap.size = sz ∧ va_P (dC, dI) vwCl [(h0, .inr (0, [.int 0, .int 0, .long 0, .int 0, .int 0, .int 0, .int 0, .null, .null]))] U.heap ∧ va_K (dC, dI) vwCl [] U ∧ va_D (fun _ => True) [(h0, .inr (0, [.int 0, .int 0, .long 0, .int 0, .int 0, .int 0, .int 0, .null, .null]))])) (va_Qv (fun u9 : dk_S => u9 = (0, 0, 0, 0, 0, 0, 0, (fun _ => 0), (fun _ => 0))) (fun u9 t9 => ∃ (h1 h2 : Nat) (a1 a2 : ClassId), dk_B dC dI (va_A [(h0, .inr (0, [.int 0, .int 0, .long 0, .int 0, .int 0, .int 0, .int 0, .null, .null]))] sz) h0 h1 h2 a1 a2 u9 t9) (va_A [(h0, .inr (0, [.int 0, .int 0, .long 0, .int 0, .int 0, .int 0, .int 0, .null, .null]))] sz)) 2 16 (va_A [(h0, .inr (0, [.int 0, .int 0, .long 0, .int 0, .int 0, .int 0, .int 0, .null, .null]))] sz) := by
  refine Met.ofW (cc := cX0_init) (maxL := 1) (ret := none) (by decide) rfl ?_
  intro p e s m args below meth c s₁ B hml hv
  obtain ⟨rfl, hsz, hP, hK, hD0⟩ := hv
  have hx := B.exec
  have hb := B.bytes
  have hr := B.returns
  have hts := atoms_spec (ws := wsX0_init) B.pre
  have hown : s.vm.findClass RX0 = some m.cls := findClass_of_methodNamed B.named
  have hlocks := B.notSynchronized
  have hin : meth.name = "<init>" := (name_of_methodNamed B.named B.method).1
  subst hsz
  have hD := hD0.self (sz := s.heap.size)
  generalize hAe : va_A [(h0, .inr (0, [.int 0, .int 0, .long 0, .int 0, .int 0, .int 0, .int 0, .null, .null]))] s.heap.size = A at hD ⊢
  have hA : ∀ q : Nat, s.heap.size ≤ q → A q := fun q h => by rw [← hAe]; exact Or.inr h
  have hS : va_S A s.heap s.heap [] := va_S.rf
  have hl := lv_entry ([.ref h0]) (n := 1) (Nat.le_of_ble_eq_true rfl)
  rw [lg_entry_eq]
  generalize (lg_sl ([.ref h0]) ++ List.replicate (1 - (lg_sl ([.ref h0])).length) Slot.unset).toArray = ls at hl ⊢
  have hl : lv_has ls 1 [(0, .ref h0)] := hl
  refine lv_aload_n hx hb dX0_init_0 rfl (lv_at hl 0 rfl) ?_
  refine W.objInit hx hb hown (hts (.methodLink RX0 1 objectInit) (by decide +kernel)) (hts (.instanceMethod objectInit) (by decide +kernel)) (hts _ (List.mem_cons_of_mem _ (List.mem_append_left _ (List.mem_of_getElem? (i := 2) rfl)))) rfl (by rw [hml]; exact hl.1) rfl dX0_init_1 (Nat.le_of_ble_eq_true rfl) (Nat.le_of_ble_eq_true rfl) ?_
  refine W.eq (g2 := F0 m 4 ls []) rfl ?_
  refine lv_aload_n hx hb dX0_init_4 rfl (lv_at hl 0 rfl) ?_
  refine lv_bipush (v := 8) hx hb dX0_init_5 (by decide) ?_
  refine va_newa (atype := .int) (N' := 8) (a0 := (8, .inl (fun _ => 0))) (ty := .int) (n := 8) hx hb (hts (.arrayClass .int) (by decide +kernel)) rfl hK hP hD hS hA (fun _ => rfl) (by decide) (by decide) (by decide) (Nat.le_of_ble_eq_true rfl) (Nat.le_of_ble_eq_true rfl) dX0_init_7 (fun q_7 cA_7 H hK hP hD hS => ?_)
  have hP : va_P (dC, dI) vwCl [(h0, .inr (0, [.int 0, .int 0, .long 0, .int 0, .int 0, .int 0, .int 0, .null, .null])), (q_7, .inl (cA_7, 8, .inl (fun _ => 0)))] H := hP
  have hD : va_D A [(h0, .inr (0, [.int 0, .int 0, .long 0, .int 0, .int 0, .int 0, .int 0, .null, .null])), (q_7, .inl (cA_7, 8, .inl (fun _ => 0)))] := hD
  have hK : va_K (dC, dI) vwCl [(cA_7, .int)] s := hK
  refine W.widen (k := 1) (n := 8) (Nat.le_of_ble_eq_true rfl) (Nat.le_of_ble_eq_true rfl) ?_
  refine va_putF (D := (dC, dI)) (ci := 0) (v := .ref q_7) (ty := .array .int) (C := RX0) (T := TX0) (N := 9) hx hb hts (by decide +kernel) tyX0 tyX0_ok nmX0 hown hK hP hD hS 0 rfl rfl 7 (by decide) (hts (.fieldLink RX0 9 "DomainKeys" "secrets" "[I") (by decide +kernel)) (fun _ h9 => h9) rfl hin rfl (by decide +kernel) rfl rfl (Nat.le_of_ble_eq_true rfl) dX0_init_9 (fun H locs hP hD hS => ?_)
  have hP : va_P (dC, dI) vwCl [(h0, .inr (0, [.int 0, .int 0, .long 0, .int 0, .int 0, .int 0, .int 0, .ref q_7, .null])), (q_7, .inl (cA_7, 8, .inl (fun _ => 0)))] H := hP
  have hD : va_D A [(h0, .inr (0, [.int 0, .int 0, .long 0, .int 0, .int 0, .int 0, .int 0, .ref q_7, .null])), (q_7, .inl (cA_7, 8, .inl (fun _ => 0)))] := hD
  refine lv_aload_n hx hb dX0_init_12 rfl (lv_at hl 0 rfl) ?_
  refine lv_bipush (v := 8) hx hb dX0_init_13 (by decide) ?_
  refine va_newa (atype := .int) (N' := 8) (a0 := (8, .inl (fun _ => 0))) (ty := .int) (n := 8) hx hb (hts (.arrayClass .int) (by decide +kernel)) rfl hK hP hD hS hA (fun _ => rfl) (by decide) (by decide) (by decide) (Nat.le_of_ble_eq_true rfl) (Nat.le_of_ble_eq_true rfl) dX0_init_15 (fun q_15 cA_15 H hK hP hD hS => ?_)
  have hP : va_P (dC, dI) vwCl [(h0, .inr (0, [.int 0, .int 0, .long 0, .int 0, .int 0, .int 0, .int 0, .ref q_7, .null])), (q_7, .inl (cA_7, 8, .inl (fun _ => 0))), (q_15, .inl (cA_15, 8, .inl (fun _ => 0)))] H := hP
  have hD : va_D A [(h0, .inr (0, [.int 0, .int 0, .long 0, .int 0, .int 0, .int 0, .int 0, .ref q_7, .null])), (q_7, .inl (cA_7, 8, .inl (fun _ => 0))), (q_15, .inl (cA_15, 8, .inl (fun _ => 0)))] := hD
  have hK : va_K (dC, dI) vwCl [(cA_7, .int), (cA_15, .int)] s := hK
  refine W.widen (k := 2) (n := 16) (Nat.le_of_ble_eq_true rfl) (Nat.le_of_ble_eq_true rfl) ?_
  refine va_putF (D := (dC, dI)) (ci := 0) (v := .ref q_15) (ty := .array .int) (C := RX0) (T := TX0) (N := 9) hx hb hts (by decide +kernel) tyX0 tyX0_ok nmX0 hown hK hP hD hS 0 rfl rfl 8 (by decide) (hts (.fieldLink RX0 13 "DomainKeys" "publicNumbers" "[I") (by decide +kernel)) (fun _ h9 => h9) rfl hin rfl (by decide +kernel) rfl rfl (Nat.le_of_ble_eq_true rfl) dX0_init_17 (fun H locs hP hD hS => ?_)
  have hP : va_P (dC, dI) vwCl [(h0, .inr (0, [.int 0, .int 0, .long 0, .int 0, .int 0, .int 0, .int 0, .ref q_7, .ref q_15])), (q_7, .inl (cA_7, 8, .inl (fun _ => 0))), (q_15, .inl (cA_15, 8, .inl (fun _ => 0)))] H := hP
  have hD : va_D A [(h0, .inr (0, [.int 0, .int 0, .long 0, .int 0, .int 0, .int 0, .int 0, .ref q_7, .ref q_15])), (q_7, .inl (cA_7, 8, .inl (fun _ => 0))), (q_15, .inl (cA_15, 8, .inl (fun _ => 0)))] := hD
  exact W.vret hx hb hr (fun t ht hW => ⟨⟨(0, 0, 0, 0, 0, 0, 0, (fun _ => 0), (fun _ => 0)), rfl, rfl, q_7, q_15, cA_7, cA_15, by rw [ht]; exact hP, va_K.moved hW.alike hK, hD⟩, hS.F ht⟩) hS.2.2 dX0_init_20

/-- an array whose first n places are 0 -/
def dk_clr (n : Nat) (f : Nat → Int32) : Nat → Int32 := fun j => if j < n then 0 else f j
theorem dk_clr_0 (f : Nat → Int32) : dk_clr 0 f = f := funext fun j => if_neg (Nat.not_lt_zero j)
theorem dk_clr_s (f : Nat → Int32) (n : Nat) : upd (dk_clr n f) n 0 = dk_clr (n + 1) f := funext fun j => by
  unfold upd dk_clr
  by_cases h : j = n
  · rw [if_pos h, if_pos (by omega)]
  · rw [if_neg h]
    by_cases h2 : j < n
    · rw [if_pos h2, if_pos (by omega)]
    · rw [if_neg h2, if_neg (by omega)]

set_option maxHeartbeats 4000000 in
set_option maxRecDepth 100000 in
theorem dk_adopt_loop {p : Program} {l : Launch} {e : Env} {s : State} {m : MethodId} {args : Array Value} {below : List Frame} {meth : Method} {c : Code} {Q : State → Prop} {A : Nat → Prop} (dC : Nat → ClassId) (dI : Nat → Nat → Nat) (h0 h1 h2 : Nat) (a1 a2 : ClassId) (cp cq : Int32) (cs : Int64) (cn dp dq dg : Int32) (se pu : Nat → Int32) (hx : p.tables.exec = Jvm.exec) (hb : c.code = cX0_adopt) (hml : c.maxLocals = 5) (hown : s.vm.findClass RX0 = some m.cls) (hts : ∀ w ∈ wsX0_adopt, w.before args s = true) (hA : ∀ q : Nat, s.heap.size ≤ q → A q) (hK : va_K (dC, dI) vwCl [(a1, .int), (a2, .int)] s) (kk : ∀ (H : Heap) (locs : List Loc) (ls : Array Slot), va_P (dC, dI) vwCl [(h0, .inr (0, [.int cp, .int cq, .long cs, .int cn, .int dp, .int dq, .int dg, .ref h1, .ref h2])), (h1, .inl (a1, 8, .inl (dk_clr 8 se))), (h2, .inl (a2, 8, .inl (dk_clr 8 pu)))] H → va_D A [(h0, .inr (0, [.int cp, .int cq, .long cs, .int cn, .int dp, .int dq, .int dg, .ref h1, .ref h2])), (h1, .inl (a1, 8, .inl (dk_clr 8 se))), (h2, .inl (a2, 8, .inl (dk_clr 8 pu)))] → va_S A s.heap H locs → W p l e (headSpec wsX0_adopt ({ frames := 6, cells := 1, slots := 6, locals := 82 })).room s m args below meth c H locs 0 0 Q (F0 m 56 ls [])) :
    ∀ (n i9 : Nat) (H : Heap) (locs : List Loc) (ls : Array Slot), 9 ≤ i9 + n → i9 ≤ 8 → va_P (dC, dI) vwCl [(h0, .inr (0, [.int cp, .int cq, .long cs, .int cn, .int dp, .int dq, .int dg, .ref h1, .ref h2])), (h1, .inl (a1, 8, .inl (dk_clr i9 se))), (h2, .inl (a2, 8, .inl (dk_clr i9 pu)))] H → va_D A [(h0, .inr (0, [.int cp, .int cq, .long cs, .int cn, .int dp, .int dq, .int dg, .ref h1, .ref h2])), (h1, .inl (a1, 8, .inl (dk_clr i9 se))), (h2, .inl (a2, 8, .inl (dk_clr i9 pu)))] → va_S A s.heap H locs → lv_has ls 5 [(0, .ref h0), (4, .int (nI i9))] → W p l e (headSpec wsX0_adopt ({ frames := 6, cells := 1, slots := 6, locals := 82 })).room s m args below meth c H locs 0 0 Q (F0 m 37 ls []) := by
  intro n
  induction n with
  | zero =>
    intro i9 H locs ls g1 g2
    exact absurd g1 (by omega)
  | succ n ih =>
    intro i9 H locs ls g1 g2 hP hD hS hl
    refine lv_iload hx hb dX0_adopt_37 (lv_at hl 1 rfl) ?_
    refine lv_bipush (v := 8) hx hb dX0_adopt_39 (by decide) ?_
    refine lv_icmp_ge (tgt := 56) hx hb dX0_adopt_41 (by decide) (fun c_41 => ?_) (fun c_41 => ?_)
    · have hi9 : i9 = 8 := by
        have := (nI_leI (a := 8) (b := i9) (by omega) (by omega)).mp c_41
        omega
      subst hi9
      exact kk H locs ls hP hD hS
    · have hi9 : i9 < 8 := by
        rcases Nat.lt_or_ge i9 8 with q | q
        · exact q
        · exact absurd ((nI_leI (a := 8) (b := i9) (by omega) (by omega)).mpr q) c_41
      refine lv_aload_n hx hb dX0_adopt_44 rfl (lv_at hl 0 rfl) ?_
      refine lv_iload hx hb dX0_adopt_45 (lv_at hl 1 rfl) ?_
      have hPc := hP.sub (ws' := [(h0, .inr (0, [.int cp, .int cq, .long cs, .int cn, .int dp, .int dq, .int dg, .ref h1, .ref h2])), (h1, .inl (a1, 8, .inl (dk_clr i9 se))), (h2, .inl (a2, 8, .inl (dk_clr i9 pu)))]) [0, 1, 2] rfl
      have hDc := hD.sub (ws' := [(h0, .inr (0, [.int cp, .int cq, .long cs, .int cn, .int dp, .int dq, .int dg, .ref h1, .ref h2])), (h1, .inl (a1, 8, .inl (dk_clr i9 se))), (h2, .inl (a2, 8, .inl (dk_clr i9 pu)))]) [0, 1, 2] (by decide) rfl
      have hKc := hK.sub (tys' := [(a1, .int), (a2, .int)]) [0, 1] rfl
      have hFc := va_free (wc := [(h0, .inr (0, [.int cp, .int cq, .long cs, .int cn, .int dp, .int dq, .int dg, .ref h1, .ref h2])), (h1, .inl (a1, 8, .inl (dk_clr i9 se))), (h2, .inl (a2, 8, .inl (dk_clr i9 pu)))]) hD hS hA [0, 1, 2] rfl
      refine va_callv (va_runV (As := [.int (nI i9)]) (rest := []) ⟨hx, hb, hml, hown, hts⟩ (dk_c_clearSlot l dC dI h0 h1 h2 a1 a2 cp cq cs cn dp dq dg (dk_clr i9 se) (dk_clr i9 pu) i9 hi9 _) (cwV 1 hts gX0_adopt_X0_clearSlot rfl rfl rfl (by decide +kernel) ⟨Nat.le_of_ble_eq_true rfl, Nat.le_of_ble_eq_true rfl⟩) ⟨fun a U g mk q => by obtain ⟨q0, q1, qP, qK, qD⟩ := q; exact ⟨q0, q1, qP, va_K.moved (u := U) (U := U.calling g mk a) (Vm.Alike.refl U.vm) qK, qD⟩, va_recv hKc hPc (ci := 0) (q0 := 0) rfl rfl, fun U hU hW => ⟨rfl, by rw [hU], by rw [hU]; exact hPc, va_K.moved hW.alike hKc, hDc.weaken (fun _ _ _ _ => trivial)⟩⟩ rfl rfl hl.1 rfl (lv_room (Nat.le_of_ble_eq_true rfl)) dX0_adopt_47 ⟨Nat.le_of_ble_eq_true rfl, Nat.le_of_ble_eq_true rfl⟩) hS (fun q _ h => hFc q h) hFc (fun u t H1 locs ht hvm hw hB hz1 hk1 hS => ?_)
      subst hw
      obtain ⟨hP1, hK1, hD1⟩ := hB
      rw [ht] at hP1
      have hK1 := va_K.moved hvm.symm hK1
      obtain ⟨hP, hD⟩ := va_join (wr := []) (w1 := [(h0, .inr (0, [.int cp, .int cq, .long cs, .int cn, .int dp, .int dq, .int dg, .ref h1, .ref h2])), (h1, .inl (a1, 8, .inl (upd (dk_clr i9 se) i9 0))), (h2, .inl (a2, 8, .inl (upd (dk_clr i9 pu) i9 0)))]) hP hD [0, 1, 2] [] rfl rfl (by decide) (by decide) hk1 hFc hP1 hD1
      have hK := (hK.sub (tys' := []) [] rfl).app hK1
      generalize H1 = H at hP hS ⊢
      have hP : va_P (dC, dI) vwCl [(h0, .inr (0, [.int cp, .int cq, .long cs, .int cn, .int dp, .int dq, .int dg, .ref h1, .ref h2])), (h1, .inl (a1, 8, .inl (upd (dk_clr i9 se) i9 0))), (h2, .inl (a2, 8, .inl (upd (dk_clr i9 pu) i9 0)))] H := hP
      have hD : va_D A [(h0, .inr (0, [.int cp, .int cq, .long cs, .int cn, .int dp, .int dq, .int dg, .ref h1, .ref h2])), (h1, .inl (a1, 8, .inl (upd (dk_clr i9 se) i9 0))), (h2, .inl (a2, 8, .inl (upd (dk_clr i9 pu) i9 0)))] := hD
      have hK : va_K (dC, dI) vwCl [(a1, .int), (a2, .int)] s := hK
      refine lv_iinc (v := (nI (i9 + 1))) (lv' := [(4, .int (nI (i9 + 1))), (0, .ref h0)]) hx hb dX0_adopt_50 hl (k := 1) rfl (nI_1 i9) (by decide) rfl (fun ls hl => ?_)
      refine lv_goto (tgt := 37) hx hb dX0_adopt_53 (by decide) ?_
      rw [dk_clr_s, dk_clr_s] at hP hD
      exact ih (i9 + 1) H locs ls (by omega) (by omega) hP hD hS (lv_sub hl [1, 0] rfl)

set_option maxHeartbeats 4000000 in
set_option maxRecDepth 100000 in
theorem dk_c_adopt (l : Launch) (hl9 : l.stackTraces = false) (dC : Nat → ClassId) (dI : Nat → Nat → Nat) (h0 h1 h2 : Nat) (a1 a2 : ClassId) (cp cq : Int32) (cs : Int64) (cn dp dq dg : Int32) (se pu : Nat → Int32) (x y z : Int32) (sz : Nat) : vx_Met l yX0_adopt wsX0_adopt ({ frames := 6, cells := 1, slots := 6, locals := 82 }) (va_Pc [.ref h0, .int x, .int y, .int z] (fun U => U.heap.size = sz ∧ va_P (dC, dI) vwCl [(h0, .inr (0, [.int cp, .int cq, .long cs, .int cn, .int dp, .int dq, .int dg, .ref h1, .ref h2])), (h1, .inl (a1, 8, .inl se)), (h2, .inl (a2, 8, .inl pu))] U.heap ∧ va_K (dC, dI) vwCl [(a1, .int), (a2, .int)] U ∧ va_D (fun _ => True) [(h0, .inr (0, [.int cp, .int cq, .long cs, .int cn, .int dp, .int dq, .int dg, .ref h1, .ref h2])), (h1, .inl (a1, 8, .inl se)), (h2, .inl (a2, 8, .inl pu))] ∧ dk_E (va_A [(h0, .inr (0, [.int cp, .int cq, .long cs, .int cn, .int dp, .int dq, .int dg, .ref h1, .ref h2])), (h1, .inl (a1, 8, .inl se)), (h2, .inl (a2, 8, .inl pu))] sz) U U.heap)) (va_Qv (fun u9 : dk_S => dk_domI x y z ∧ u9 = (cp, cq, cs, cn, x, y, z, dk_clr 8 se, dk_clr 8 pu)) (dk_B dC dI (va_A [(h0, .inr (0, [.int cp, .int cq, .long cs, .int cn, .int dp, .int dq, .int dg, .ref h1, .ref h2])), (h1, .inl (a1, 8, .inl se)), (h2, .inl (a2, 8, .inl pu))] sz) h0 h1 h2 a1 a2) (va_A [(h0, .inr (0, [.int cp, .int cq, .long cs, .int cn, .int dp, .int dq, .int dg, .ref h1, .ref h2])), (h1, .inl (a1, 8, .inl se)), (h2, .inl (a2, 8, .inl pu))] sz)) (vx_X (fun _ : dk_S => True) (fun E9 u9 t9 => (u9 = (cp, cq, cs, cn, dp, dq, dg, se, pu) ∧ E9 = "java/lang/IllegalArgumentException" ∧ ¬ dk_domI x y z) ∧ dk_B dC dI (va_A [(h0, .inr (0, [.int cp, .int cq, .long cs, .int cn, .int dp, .int dq, .int dg, .ref h1, .ref h2])), (h1, .inl (a1, 8, .inl se)), (h2, .inl (a2, 8, .inl pu))] sz) h0 h1 h2 a1 a2 u9 t9) (va_A [(h0, .inr (0, [.int cp, .int cq, .long cs, .int cn, .int dp, .int dq, .int dg, .ref h1, .ref h2])), (h1, .inl (a1, 8, .inl se)), (h2, .inl (a2, 8, .inl pu))] sz)) 1 6 (va_A [(h0, .inr (0, [.int cp, .int cq, .long cs, .int cn, .int dp, .int dq, .int dg, .ref h1, .ref h2])), (h1, .inl (a1, 8, .inl se)), (h2, .inl (a2, 8, .inl pu))] sz) := by
  refine vx_ofW (cc := cX0_adopt) (maxL := 5) (ret := none) (by decide) rfl ?_
  intro p e s m args below meth c s₁ B hml hEx hv
  obtain ⟨rfl, hsz, hP, hK, hD0, hE⟩ := hv
  have hx := B.exec
  have hb := B.bytes
  have hr := B.returns
  have hts := atoms_spec (ws := wsX0_adopt) B.pre
  have hown : s.vm.findClass RX0 = some m.cls := findClass_of_methodNamed B.named
  have hlocks := B.notSynchronized
  subst hsz
  have hD := hD0.self (sz := s.heap.size)
  generalize hAe : va_A [(h0, .inr (0, [.int cp, .int cq, .long cs, .int cn, .int dp, .int dq, .int dg, .ref h1, .ref h2])), (h1, .inl (a1, 8, .inl se)), (h2, .inl (a2, 8, .inl pu))] s.heap.size = A at hD hE ⊢
  have hA : ∀ q : Nat, s.heap.size ≤ q → A q := fun q h => by rw [← hAe]; exact Or.inr h
  have hS : va_S A s.heap s.heap [] := va_S.rf
  have hl := lv_entry ([.ref h0, .int x, .int y, .int z]) (n := 5) (Nat.le_of_ble_eq_true rfl)
  rw [lg_entry_eq]
  generalize (lg_sl ([.ref h0, .int x, .int y, .int z]) ++ List.replicate (5 - (lg_sl ([.ref h0, .int x, .int y, .int z])).length) Slot.unset).toArray = ls at hl ⊢
  have hl : lv_has ls 5 [(0, .ref h0), (1, .int x), (2, .int y), (3, .int z)] := hl
  refine lv_iload_n hx hb dX0_adopt_0 rfl (lv_at hl 1 rfl) ?_
  refine lv_iload_n hx hb dX0_adopt_1 rfl (lv_at hl 2 rfl) ?_
  refine lv_iload_n hx hb dX0_adopt_2 rfl (lv_at hl 3 rfl) ?_
  refine vp_callSi (W.runS (As := [.int x, .int y, .int z]) (rest := []) ⟨hx, hb, hml, hown, hts⟩ (dk_c_isDomain l x y z) (va_cwS 3 hts gX0_adopt_X0_isDomain rfl rfl rfl (by decide +kernel) ⟨Nat.le_of_ble_eq_true rfl, Nat.le_of_ble_eq_true rfl⟩) ⟨fun _ _ _ _ q9 => q9, fun U hU hW => ⟨rfl, trivial⟩⟩ rfl rfl hl.1 rfl (lv_room (Nat.le_of_ble_eq_true rfl)) dX0_adopt_3 ⟨Nat.le_of_ble_eq_true rfl, Nat.le_of_ble_eq_true rfl⟩) (fun r_3 hr_3 => ?_)
  refine lv_if_ne (tgt := 19) hx hb dX0_adopt_6 (by decide) (fun c_6 => ?_) (fun c_6 => ?_)
  · have hyes : dk_domI x y z := by
      rcases hr_3 with ⟨-, q⟩ | ⟨q, -⟩
      · exact q
      · exact absurd q c_6
    refine lv_aload_n hx hb dX0_adopt_19 rfl (lv_at hl 0 rfl) ?_
    refine lv_iload_n hx hb dX0_adopt_20 rfl (lv_at hl 1 rfl) ?_
    refine va_put (D := (dC, dI)) (ci := 0) (v := .int x) (ty := .int) (C := RX0) (T := TX0) (N := 9) hx hb hts (by decide +kernel) tyX0 tyX0_ok nmX0 hown hK hP hD hS 0 rfl rfl 4 (by decide) (hts (.fieldLink RX0 66 "DomainKeys" "domainP" "I") (by decide +kernel)) (fun _ h9 => h9) rfl (by decide +kernel) rfl rfl (Nat.le_of_ble_eq_true rfl) dX0_adopt_21 (fun H locs hP hD hS => ?_)
    have hP : va_P (dC, dI) vwCl [(h0, .inr (0, [.int cp, .int cq, .long cs, .int cn, .int x, .int dq, .int dg, .ref h1, .ref h2])), (h1, .inl (a1, 8, .inl se)), (h2, .inl (a2, 8, .inl pu))] H := hP
    have hD : va_D A [(h0, .inr (0, [.int cp, .int cq, .long cs, .int cn, .int x, .int dq, .int dg, .ref h1, .ref h2])), (h1, .inl (a1, 8, .inl se)), (h2, .inl (a2, 8, .inl pu))] := hD
    refine lv_aload_n hx hb dX0_adopt_24 rfl (lv_at hl 0 rfl) ?_
    refine lv_iload_n hx hb dX0_adopt_25 rfl (lv_at hl 2 rfl) ?_
    refine va_put (D := (dC, dI)) (ci := 0) (v := .int y) (ty := .int) (C := RX0) (T := TX0) (N := 9) hx hb hts (by decide +kernel) tyX0 tyX0_ok nmX0 hown hK hP hD hS 0 rfl rfl 5 (by decide) (hts (.fieldLink RX0 69 "DomainKeys" "domainQ" "I") (by decide +kernel)) (fun _ h9 => h9) rfl (by decide +kernel) rfl rfl (Nat.le_of_ble_eq_true rfl) dX0_adopt_26 (fun H locs hP hD hS => ?_)
    have hP : va_P (dC, dI) vwCl [(h0, .inr (0, [.int cp, .int cq, .long cs, .int cn, .int x, .int y, .int dg, .ref h1, .ref h2])), (h1, .inl (a1, 8, .inl se)), (h2, .inl (a2, 8, .inl pu))] H := hP
    have hD : va_D A [(h0, .inr (0, [.int cp, .int cq, .long cs, .int cn, .int x, .int y, .int dg, .ref h1, .ref h2])), (h1, .inl (a1, 8, .inl se)), (h2, .inl (a2, 8, .inl pu))] := hD
    refine lv_aload_n hx hb dX0_adopt_29 rfl (lv_at hl 0 rfl) ?_
    refine lv_iload_n hx hb dX0_adopt_30 rfl (lv_at hl 3 rfl) ?_
    refine va_put (D := (dC, dI)) (ci := 0) (v := .int z) (ty := .int) (C := RX0) (T := TX0) (N := 9) hx hb hts (by decide +kernel) tyX0 tyX0_ok nmX0 hown hK hP hD hS 0 rfl rfl 6 (by decide) (hts (.fieldLink RX0 72 "DomainKeys" "domainG" "I") (by decide +kernel)) (fun _ h9 => h9) rfl (by decide +kernel) rfl rfl (Nat.le_of_ble_eq_true rfl) dX0_adopt_31 (fun H locs hP hD hS => ?_)
    have hP : va_P (dC, dI) vwCl [(h0, .inr (0, [.int cp, .int cq, .long cs, .int cn, .int x, .int y, .int z, .ref h1, .ref h2])), (h1, .inl (a1, 8, .inl se)), (h2, .inl (a2, 8, .inl pu))] H := hP
    have hD : va_D A [(h0, .inr (0, [.int cp, .int cq, .long cs, .int cn, .int x, .int y, .int z, .ref h1, .ref h2])), (h1, .inl (a1, 8, .inl se)), (h2, .inl (a2, 8, .inl pu))] := hD
    refine lv_iconst (v := 0) hx hb dX0_adopt_34 (by decide) ?_
    refine lv_istore (lv' := [(4, .int 0), (0, .ref h0), (1, .int x), (2, .int y), (3, .int z)]) hx hb dX0_adopt_35 hl (by decide) rfl (fun ls hl => ?_)
    refine dk_adopt_loop dC dI h0 h1 h2 a1 a2 cp cq cs cn x y z se pu hx hb hml hown hts hA hK (fun H locs ls hP hD hS => ?_) 9 0 H locs ls (by omega) (by omega) (by rw [dk_clr_0, dk_clr_0]; exact hP) (by rw [dk_clr_0, dk_clr_0]; exact hD) hS (lv_sub hl [1, 0] rfl)
    refine W.widen (k := 1) (n := 6) (Nat.le_of_ble_eq_true rfl) (Nat.le_of_ble_eq_true rfl) ?_
    exact vx_ret (W.vret hx hb hr (fun t ht hW => ⟨⟨(cp, cq, cs, cn, x, y, z, dk_clr 8 se, dk_clr 8 pu), rfl, ⟨hyes, rfl⟩, by rw [ht]; exact hP, va_K.moved hW.alike hK, hD⟩, hS.F ht⟩) hS.2.2 dX0_adopt_56)
  · have hno : ¬ dk_domI x y z := by
      rcases hr_3 with ⟨q, -⟩ | ⟨-, q⟩
      · rw [q] at c_6; exact absurd c_6 (by decide)
      · exact q
    obtain ⟨sa_9, hs_9⟩ := hE.2.2.2.2.1 (64, "no domain") (by decide +kernel)
    refine vx_throwS (own := RX0) (cls := "java/lang/IllegalArgumentException") (text := "no domain") (names := ["java/lang/RuntimeException", "java/lang/Exception"]) (ik := 48) (is := 64) (ic := 52) (rest := []) hx hb hl9 hown (by decide +kernel) (by decide +kernel) (hts (.classLink RX0 48 "java/lang/IllegalArgumentException") (by decide +kernel)) (hts (.initialized "java/lang/IllegalArgumentException") (by decide +kernel)) hs_9 (vx_hat (L := vx_atS RX0 52 "java/lang/IllegalArgumentException" ["java/lang/RuntimeException", "java/lang/Exception"]) (B := [.castable "java/lang/IllegalArgumentException" "java/lang/IllegalArgumentException", .declares (Bundle.initS "java/lang/RuntimeException"), .declares (Bundle.initS "java/lang/Exception"), .declares (Bundle.initS "java/lang/Throwable")]) (fun w hw => hts w ((by decide +kernel : ∀ w ∈ (vx_atS RX0 52 "java/lang/IllegalArgumentException" ["java/lang/RuntimeException", "java/lang/Exception"]).filter goodWord, w ∈ wsX0_adopt) w hw)) (by decide +kernel) (vx_c (va_Nw.use rfl (hE.2.2.1 "java/lang/IllegalArgumentException" (by decide +kernel))) (vx_c (va_Nw.use rfl (hE.2.2.2.1 "java/lang/RuntimeException" (by decide +kernel))) (vx_c (va_Nw.use rfl (hE.2.2.2.1 "java/lang/Exception" (by decide +kernel))) (vx_c (va_Nw.use rfl (hE.2.2.2.1 "java/lang/Throwable" (by decide +kernel))) (vx_n)))))) (by decide +kernel) hE.1 hE.2.1 hS (hl.1.trans hml.symm) dX0_adopt_9 dX0_adopt_12 dX0_adopt_13 dX0_adopt_15 dX0_adopt_18 (fun x hx => (hEx x hx).elim) (Nat.le_of_ble_eq_true rfl) (Nat.le_of_ble_eq_true rfl) (Nat.le_of_ble_eq_true rfl) (Nat.le_of_ble_eq_true rfl) hlocks (fun t ha hz hk => ?_) hS.2.2 (Nat.le_of_ble_eq_true rfl) (Nat.le_of_ble_eq_true rfl)
    exact ⟨(cp, cq, cs, cn, dp, dq, dg, se, pu), trivial, ⟨⟨rfl, rfl, hno⟩, hP.kept (fun k q hq => hk q.1 (hP k q hq).lt), va_K.moved ha hK, hD⟩, dk_F hS hz hk⟩

set_option maxHeartbeats 4000000 in
set_option maxRecDepth 100000 in
theorem dk_c_key (l : Launch) (hl9 : l.stackTraces = false) (dC : Nat → ClassId) (dI : Nat → Nat → Nat) (h0 h1 h2 : Nat) (a1 a2 : ClassId) (cp cq : Int32) (cs : Int64) (cn dp dq dg : Int32) (se pu : Nat → Int32) (x y : Int32) (hI : dk_ID dp dq dg) (sz : Nat) : vx_Met l yX0_key wsX0_key ({ frames := 7, cells := 2, slots := 12, locals := 102 }) (va_Pc [.ref h0, .int x, .int y] (fun U => U.heap.size = sz ∧ va_P (dC, dI) vwCl [(h0, .inr (0, [.int cp, .int cq, .long cs, .int cn, .int dp, .int dq, .int dg, .ref h1, .ref h2])), (h1, .inl (a1, 8, .inl se)), (h2, .inl (a2, 8, .inl pu))] U.heap ∧ va_K (dC, dI) vwCl [(a1, .int), (a2, .int)] U ∧ va_D (fun _ => True) [(h0, .inr (0, [.int cp, .int cq, .long cs, .int cn, .int dp, .int dq, .int dg, .ref h1, .ref h2])), (h1, .inl (a1, 8, .inl se)), (h2, .inl (a2, 8, .inl pu))] ∧ dk_E (va_A [(h0, .inr (0, [.int cp, .int cq, .long cs, .int cn, .int dp, .int dq, .int dg, .ref h1, .ref h2])), (h1, .inl (a1, 8, .inl se)), (h2, .inl (a2, 8, .inl pu))] sz) U U.heap)) (va_Qi (fun (r9 : Int32) (u9 : dk_S) => u9 = (cp, cq, cs, cn, dp, dq, dg, upd se (dk_n x) y, upd pu (dk_n x) r9) ∧ dk_fkey dp dq dg x y = (0, r9)) (dk_B dC dI (va_A [(h0, .inr (0, [.int cp, .int cq, .long cs, .int cn, .int dp, .int dq, .int dg, .ref h1, .ref h2])), (h1, .inl (a1, 8, .inl se)), (h2, .inl (a2, 8, .inl pu))] sz) h0 h1 h2 a1 a2) (va_A [(h0, .inr (0, [.int cp, .int cq, .long cs, .int cn, .int dp, .int dq, .int dg, .ref h1, .ref h2])), (h1, .inl (a1, 8, .inl se)), (h2, .inl (a2, 8, .inl pu))] sz)) (vx_X (fun _ : dk_S => True) (fun E9 u9 t9 => (u9 = (cp, cq, cs, cn, dp, dq, dg, se, pu) ∧ ((E9 = "java/lang/IllegalStateException" ∧ dk_fkey dp dq dg x y = (1, 0)) ∨ (E9 = "java/lang/IndexOutOfBoundsException" ∧ dk_fkey dp dq dg x y = (2, 0)) ∨ (E9 = "java/lang/IllegalArgumentException" ∧ dk_fkey dp dq dg x y = (3, 0)))) ∧ dk_B dC dI (va_A [(h0, .inr (0, [.int cp, .int cq, .long cs, .int cn, .int dp, .int dq, .int dg, .ref h1, .ref h2])), (h1, .inl (a1, 8, .inl se)), (h2, .inl (a2, 8, .inl pu))] sz) h0 h1 h2 a1 a2 u9 t9) (va_A [(h0, .inr (0, [.int cp, .int cq, .long cs, .int cn, .int dp, .int dq, .int dg, .ref h1, .ref h2])), (h1, .inl (a1, 8, .inl se)), (h2, .inl (a2, 8, .inl pu))] sz)) 2 12 (va_A [(h0, .inr (0, [.int cp, .int cq, .long cs, .int cn, .int dp, .int dq, .int dg, .ref h1, .ref h2])), (h1, .inl (a1, 8, .inl se)), (h2, .inl (a2, 8, .inl pu))] sz) := by
  refine vx_ofW (cc := cX0_key) (maxL := 3) (ret := (some .int)) (by decide) rfl ?_
  intro p e s m args below meth c s₁ B hml hEx hv
  obtain ⟨rfl, hsz, hP, hK, hD0, hE⟩ := hv
  have hx := B.exec
  have hb := B.bytes
  have hr := B.returns
  have hts := atoms_spec (ws := wsX0_key) B.pre
  have hown : s.vm.findClass RX0 = some m.cls := findClass_of_methodNamed B.named
  have hlocks := B.notSynchronized
  subst hsz
  have hD := hD0.self (sz := s.heap.size)
  generalize hAe : va_A [(h0, .inr (0, [.int cp, .int cq, .long cs, .int cn, .int dp, .int dq, .int dg, .ref h1, .ref h2])), (h1, .inl (a1, 8, .inl se)), (h2, .inl (a2, 8, .inl pu))] s.heap.size = A at hD hE ⊢
  have hA : ∀ q : Nat, s.heap.size ≤ q → A q := fun q h => by rw [← hAe]; exact Or.inr h
  have hS : va_S A s.heap s.heap [] := va_S.rf
  have hl := lv_entry ([.ref h0, .int x, .int y]) (n := 3) (Nat.le_of_ble_eq_true rfl)
  rw [lg_entry_eq]
  generalize (lg_sl ([.ref h0, .int x, .int y]) ++ List.replicate (3 - (lg_sl ([.ref h0, .int x, .int y])).length) Slot.unset).toArray = ls at hl ⊢
  have hl : lv_has ls 3 [(0, .ref h0), (1, .int x), (2, .int y)] := hl
  refine lv_aload_n hx hb dX0_key_0 rfl (lv_at hl 0 rfl) ?_
  have hPc := hP.sub (ws' := [(h0, .inr (0, [.int cp, .int cq, .long cs, .int cn, .int dp, .int dq, .int dg, .ref h1, .ref h2])), (h1, .inl (a1, 8, .inl se)), (h2, .inl (a2, 8, .inl pu))]) [0, 1, 2] rfl
  have hDc := hD.sub (ws' := [(h0, .inr (0, [.int cp, .int cq, .long cs, .int cn, .int dp, .int dq, .int dg, .ref h1, .ref h2])), (h1, .inl (a1, 8, .inl se)), (h2, .inl (a2, 8, .inl pu))]) [0, 1, 2] (by decide) rfl
  have hKc := hK.sub (tys' := [(a1, .int), (a2, .int)]) [0, 1] rfl
  have hFc := va_free (wc := [(h0, .inr (0, [.int cp, .int cq, .long cs, .int cn, .int dp, .int dq, .int dg, .ref h1, .ref h2])), (h1, .inl (a1, 8, .inl se)), (h2, .inl (a2, 8, .inl pu))]) hD hS hA [0, 1, 2] rfl
  refine vx_callv (vx_runV (As := []) (rest := []) ⟨hx, hb, hml, hown, hts⟩ (dk_c_requireDomain l hl9 dC dI h0 h1 h2 a1 a2 cp cq cs cn dp dq dg se pu  _) (cwV 0 hts gX0_key_X0_requireDomain rfl rfl rfl (by decide +kernel) ⟨Nat.le_of_ble_eq_true rfl, Nat.le_of_ble_eq_true rfl⟩) ⟨fun a U g mk q => by obtain ⟨q0, q1, qP, qK, qD, qE⟩ := q; exact ⟨q0, q1, qP, va_K.moved (u := U) (U := U.calling g mk a) (Vm.Alike.refl U.vm) qK, qD, qE.blind⟩, va_recv hKc hPc (ci := 0) (q0 := 0) rfl rfl, fun U hU hW => ⟨rfl, by rw [hU], by rw [hU]; exact hPc, va_K.moved hW.alike hKc, hDc.weaken (fun _ _ _ _ => trivial), hE.go hS hFc hU hW⟩⟩ rfl rfl hl.1 rfl (lv_room (Nat.le_of_ble_eq_true rfl)) dX0_key_1 ⟨Nat.le_of_ble_eq_true rfl, Nat.le_of_ble_eq_true rfl⟩) hS (fun q _ h => hFc q h) hFc (fun q _ h => hFc q h) (fun E9 ce q9 u t H1 locs ht hvm hw hB hz1 hk1 hS hce hcv hcl => ?_) (fun u t H1 locs ht hvm hw hB hz1 hk1 hS => ?_)
  · obtain ⟨hEc, hB⟩ := hB
    obtain ⟨rfl, hE9, hnd⟩ := hEc
    obtain ⟨hP1, hK1, hD1⟩ := hB
    rw [ht] at hP1
    have hK1 := va_K.moved hvm.symm hK1
    obtain ⟨hP, hD⟩ := va_join (wr := []) (w1 := [(h0, .inr (0, [.int cp, .int cq, .long cs, .int cn, .int dp, .int dq, .int dg, .ref h1, .ref h2])), (h1, .inl (a1, 8, .inl se)), (h2, .inl (a2, 8, .inl pu))]) hP hD [0, 1, 2] [] rfl rfl (by decide) (by decide) hk1 hFc hP1 hD1
    have hK := (hK.sub (tys' := []) [] rfl).app hK1
    generalize H1 = H at hP hS hce ⊢
    have hP : va_P (dC, dI) vwCl [(h0, .inr (0, [.int cp, .int cq, .long cs, .int cn, .int dp, .int dq, .int dg, .ref h1, .ref h2])), (h1, .inl (a1, 8, .inl se)), (h2, .inl (a2, 8, .inl pu))] H := hP
    have hD : va_D A [(h0, .inr (0, [.int cp, .int cq, .long cs, .int cn, .int dp, .int dq, .int dg, .ref h1, .ref h2])), (h1, .inl (a1, 8, .inl se)), (h2, .inl (a2, 8, .inl pu))] := hD
    have hK : va_K (dC, dI) vwCl [(a1, .int), (a2, .int)] s := hK
    exact vx_out (E := E9) (fun x hx => (hEx x hx).elim) hlocks hce hcv hcl (fun t ht ha => ⟨(cp, cq, cs, cn, dp, dq, dg, se, pu), trivial, ⟨⟨rfl, Or.inl ⟨hE9, by rw [dk_fkey, if_pos hnd]⟩⟩, by rw [ht]; exact hP, va_K.moved ha hK, hD⟩, hS.F ht⟩) hS.2.2 (Nat.le_of_ble_eq_true rfl) (Nat.le_of_ble_eq_true rfl)
  obtain ⟨rfl, hdp⟩ := hw
  obtain ⟨P, Q9, G, hP9, hQ9, hdom, rfl, rfl, rfl⟩ := hI.resolve_left (fun q => hdp q.1)
  obtain ⟨hs1, hs2, hs3, hs4, hs5, hs6⟩ := dk_dom_sz hP9 hdom
  obtain ⟨hP1, hK1, hD1⟩ := hB
  rw [ht] at hP1
  have hK1 := va_K.moved hvm.symm hK1
  obtain ⟨hP, hD⟩ := va_join (wr := []) (w1 := [(h0, .inr (0, [.int cp, .int cq, .long cs, .int cn, .int (nI P), .int (nI Q9), .int (nI G), .ref h1, .ref h2])), (h1, .inl (a1, 8, .inl se)), (h2, .inl (a2, 8, .inl pu))]) hP hD [0, 1, 2] [] rfl rfl (by decide) (by decide) hk1 hFc hP1 hD1
  have hK := (hK.sub (tys' := []) [] rfl).app hK1
  generalize H1 = H at hP hS ⊢
  have hP : va_P (dC, dI) vwCl [(h0, .inr (0, [.int cp, .int cq, .long cs, .int cn, .int (nI P), .int (nI Q9), .int (nI G), .ref h1, .ref h2])), (h1, .inl (a1, 8, .inl se)), (h2, .inl (a2, 8, .inl pu))] H := hP
  have hD : va_D A [(h0, .inr (0, [.int cp, .int cq, .long cs, .int cn, .int (nI P), .int (nI Q9), .int (nI G), .ref h1, .ref h2])), (h1, .inl (a1, 8, .inl se)), (h2, .inl (a2, 8, .inl pu))] := hD
  have hK : va_K (dC, dI) vwCl [(a1, .int), (a2, .int)] s := hK
  refine lv_iload_n hx hb dX0_key_4 rfl (lv_at hl 1 rfl) ?_
  refine vp_callSi (W.runS (As := [.int x]) (rest := []) ⟨hx, hb, hml, hown, hts⟩ (dk_c_isSlot l x) (va_cwS 1 hts gX0_key_X0_isSlot rfl rfl rfl (by decide +kernel) ⟨Nat.le_of_ble_eq_true rfl, Nat.le_of_ble_eq_true rfl⟩) ⟨fun _ _ _ _ q9 => q9, fun U hU hW => ⟨rfl, trivial⟩⟩ rfl rfl hl.1 rfl (lv_room (Nat.le_of_ble_eq_true rfl)) dX0_key_5 ⟨Nat.le_of_ble_eq_true rfl, Nat.le_of_ble_eq_true rfl⟩) (fun r_5 hr_5 => ?_)
  refine lv_if_ne (tgt := 21) hx hb dX0_key_8 (by decide) (fun c_8 => ?_) (fun c_8 => ?_)
  · obtain ⟨j, hj, rfl⟩ : ∃ j : Nat, j < 8 ∧ x = nI j := by
      rcases hr_5 with ⟨-, q⟩ | ⟨q, -⟩
      · exact q
      · exact absurd q c_8
    have hsl : dk_sl (nI j) := dk_sl_of.mpr ⟨j, hj, rfl⟩
    refine lv_aload_n hx hb dX0_key_21 rfl (lv_at hl 0 rfl) ?_
    refine lv_iload_n hx hb dX0_key_22 rfl (lv_at hl 2 rfl) ?_
    have hPc := hP.sub (ws' := [(h0, .inr (0, [.int cp, .int cq, .long cs, .int cn, .int (nI P), .int (nI Q9), .int (nI G), .ref h1, .ref h2])), (h1, .inl (a1, 8, .inl se)), (h2, .inl (a2, 8, .inl pu))]) [0, 1, 2] rfl
    have hKc := hK.sub (tys' := [(a1, .int), (a2, .int)]) [0, 1] rfl
    refine vp_callSi (W.runV (As := [.int y]) (rest := []) ⟨hx, hb, hml, hown, hts⟩ (dk_c_isExponent l dC dI h0 h1 h2 a1 a2 cp cq cs cn (nI P) (nI Q9) (nI G) se pu y) (cwV 1 hts gX0_key_X0_isExponent rfl rfl rfl (by decide +kernel) ⟨Nat.le_of_ble_eq_true rfl, Nat.le_of_ble_eq_true rfl⟩) ⟨fun a U g mk q => by obtain ⟨q0, qP, qK⟩ := q; exact ⟨q0, qP, va_K.moved (u := U) (U := U.calling g mk a) (Vm.Alike.refl U.vm) qK⟩, va_recv hKc hPc (ci := 0) (q0 := 0) rfl rfl, fun U hU hW => ⟨rfl, by rw [hU]; exact hPc, va_K.moved hW.alike hKc⟩⟩ rfl rfl hl.1 rfl (lv_room (Nat.le_of_ble_eq_true rfl)) dX0_key_23 ⟨Nat.le_of_ble_eq_true rfl, Nat.le_of_ble_eq_true rfl⟩) (fun r_23 hr_23 => ?_)
    subst hr_23
    refine lv_if_ne (tgt := 39) hx hb dX0_key_26 (by decide) (fun c_26 => ?_) (fun c_26 => ?_)
    · have hex : dk_ex y (nI Q9) := by
        by_cases q : dk_ex y (nI Q9)
        · exact q
        · exact absurd (if_neg q) c_26
      obtain ⟨y9, hy91, hy92, rfl⟩ := dk_ex_of hQ9 hex
      refine lv_aload_n hx hb dX0_key_39 rfl (lv_at hl 0 rfl) ?_
      refine va_get (D := (dC, dI)) (ci := 0) (v := .ref h1) (C := RX0) (T := TX0) (N := 9) hx hb hts (by decide +kernel) hown hK hP 0 rfl rfl 7 (by decide) (hts (.fieldLink RX0 9 "DomainKeys" "secrets" "[I") (by decide +kernel)) (fun _ h9 => h9) rfl dX0_key_40 ?_
      refine lv_iload_n hx hb dX0_key_43 rfl (lv_at hl 1 rfl) ?_
      refine lv_iload_n hx hb dX0_key_44 rfl (lv_at hl 2 rfl) ?_
      refine va_iast hx hb hK hP hD hS 1 0 rfl rfl (vp_in_nI hj (by decide)) dX0_key_45 (fun H locs hP hD hS => ?_)
      rw [(nI_clamp (Nat.lt_trans hj (by decide)))] at hP hD
      have hP : va_P (dC, dI) vwCl [(h0, .inr (0, [.int cp, .int cq, .long cs, .int cn, .int (nI P), .int (nI Q9), .int (nI G), .ref h1, .ref h2])), (h1, .inl (a1, 8, .inl (upd se j (nI y9)))), (h2, .inl (a2, 8, .inl pu))] H := hP
      have hD : va_D A [(h0, .inr (0, [.int cp, .int cq, .long cs, .int cn, .int (nI P), .int (nI Q9), .int (nI G), .ref h1, .ref h2])), (h1, .inl (a1, 8, .inl (upd se j (nI y9)))), (h2, .inl (a2, 8, .inl pu))] := hD
      refine lv_aload_n hx hb dX0_key_46 rfl (lv_at hl 0 rfl) ?_
      refine va_get (D := (dC, dI)) (ci := 0) (v := .ref h2) (C := RX0) (T := TX0) (N := 9) hx hb hts (by decide +kernel) hown hK hP 0 rfl rfl 8 (by decide) (hts (.fieldLink RX0 13 "DomainKeys" "publicNumbers" "[I") (by decide +kernel)) (fun _ h9 => h9) rfl dX0_key_47 ?_
      refine lv_iload_n hx hb dX0_key_50 rfl (lv_at hl 1 rfl) ?_
      refine lv_aload_n hx hb dX0_key_51 rfl (lv_at hl 0 rfl) ?_
      refine va_get (D := (dC, dI)) (ci := 0) (v := .int (nI G)) (C := RX0) (T := TX0) (N := 9) hx hb hts (by decide +kernel) hown hK hP 0 rfl rfl 6 (by decide) (hts (.fieldLink RX0 72 "DomainKeys" "domainG" "I") (by decide +kernel)) (fun _ h9 => h9) rfl dX0_key_52 ?_
      refine lv_iload_n hx hb dX0_key_55 rfl (lv_at hl 2 rfl) ?_
      refine lv_aload_n hx hb dX0_key_56 rfl (lv_at hl 0 rfl) ?_
      refine va_get (D := (dC, dI)) (ci := 0) (v := .int (nI P)) (C := RX0) (T := TX0) (N := 9) hx hb hts (by decide +kernel) hown hK hP 0 rfl rfl 4 (by decide) (hts (.fieldLink RX0 66 "DomainKeys" "domainP" "I") (by decide +kernel)) (fun _ h9 => h9) rfl dX0_key_57 ?_
      refine vp_callSi (W.runS (As := [.int (nI G), .int (nI y9), .int (nI P)]) (rest := [.int (nI j), .ref h2]) ⟨hx, hb, hml, hown, hts⟩ (dk_c_power l G y9 P (by omega) (by omega) (by omega) hP9) (va_cwS 3 hts gX0_key_X0_power rfl rfl rfl (by decide +kernel) ⟨Nat.le_of_ble_eq_true rfl, Nat.le_of_ble_eq_true rfl⟩) ⟨fun _ _ _ _ q9 => q9, fun U hU hW => ⟨rfl, trivial⟩⟩ rfl rfl hl.1 rfl (lv_room (Nat.le_of_ble_eq_true rfl)) dX0_key_60 ⟨Nat.le_of_ble_eq_true rfl, Nat.le_of_ble_eq_true rfl⟩) (fun r_60 hr_60 => ?_)
      subst hr_60
      refine va_iast hx hb hK hP hD hS 2 1 rfl rfl (vp_in_nI hj (by decide)) dX0_key_63 (fun H locs hP hD hS => ?_)
      rw [(nI_clamp (Nat.lt_trans hj (by decide)))] at hP hD
      have hP : va_P (dC, dI) vwCl [(h0, .inr (0, [.int cp, .int cq, .long cs, .int cn, .int (nI P), .int (nI Q9), .int (nI G), .ref h1, .ref h2])), (h1, .inl (a1, 8, .inl (upd se j (nI y9)))), (h2, .inl (a2, 8, .inl (upd pu j (nI (G ^ y9 % P)))))] H := hP
      have hD : va_D A [(h0, .inr (0, [.int cp, .int cq, .long cs, .int cn, .int (nI P), .int (nI Q9), .int (nI G), .ref h1, .ref h2])), (h1, .inl (a1, 8, .inl (upd se j (nI y9)))), (h2, .inl (a2, 8, .inl (upd pu j (nI (G ^ y9 % P)))))] := hD
      refine lv_aload_n hx hb dX0_key_64 rfl (lv_at hl 0 rfl) ?_
      refine va_get (D := (dC, dI)) (ci := 0) (v := .ref h2) (C := RX0) (T := TX0) (N := 9) hx hb hts (by decide +kernel) hown hK hP 0 rfl rfl 8 (by decide) (hts (.fieldLink RX0 13 "DomainKeys" "publicNumbers" "[I") (by decide +kernel)) (fun _ h9 => h9) rfl dX0_key_65 ?_
      refine lv_iload_n hx hb dX0_key_68 rfl (lv_at hl 1 rfl) ?_
      refine va_iald hx hb hK hP 2 1 rfl rfl (vp_in_nI hj (by decide)) dX0_key_69 ?_
      refine lv_topi (fun v_69 ev_69 => ?_)
      have ev_69 : v_69 = (upd pu j (nI (G ^ y9 % P))) j := ev_69.trans (congrArg (upd pu j (nI (G ^ y9 % P))) (nI_clamp (Nat.lt_trans hj (by decide))))
      subst ev_69
      refine lv_topi (fun v_69 ev_69 => ?_)
      have ev_69 : v_69 = nI (G ^ y9 % P) := ev_69.trans pk_us
      subst ev_69
      refine W.widen (k := 2) (n := 12) (Nat.le_of_ble_eq_true rfl) (Nat.le_of_ble_eq_true rfl) ?_
      exact vx_ret (W.iret (v := (nI (G ^ y9 % P))) hx hb hr (fun t ht hW => ⟨⟨nI (G ^ y9 % P), (cp, cq, cs, cn, nI P, nI Q9, nI G, (upd se j (nI y9)), (upd pu j (nI (G ^ y9 % P)))), rfl, ⟨by rw [dk_n_nI (by omega)], by rw [dk_fkey, if_neg hdp, if_neg (fun q => q hsl), if_neg (fun q => q hex), dk_pw_nI (by omega) (by omega) hP9]⟩, by rw [ht]; exact hP, va_K.moved hW.alike hK, hD⟩, hS.F ht⟩) hS.2.2 dX0_key_70)
    · have hnx : ¬ dk_ex y (nI Q9) := fun q => by
        rw [if_pos q] at c_26
        exact absurd c_26 (by decide)
      obtain ⟨sa_29, hs_29⟩ := hE.2.2.2.2.1 (94, "secret is not 1 .. q - 1") (by decide +kernel)
      refine vx_throwS (own := RX0) (cls := "java/lang/IllegalArgumentException") (text := "secret is not 1 .. q - 1") (names := ["java/lang/RuntimeException", "java/lang/Exception"]) (ik := 48) (is := 94) (ic := 52) (rest := []) hx hb hl9 hown (by decide +kernel) (by decide +kernel) (hts (.classLink RX0 48 "java/lang/IllegalArgumentException") (by decide +kernel)) (hts (.initialized "java/lang/IllegalArgumentException") (by decide +kernel)) hs_29 (vx_hat (L := vx_atS RX0 52 "java/lang/IllegalArgumentException" ["java/lang/RuntimeException", "java/lang/Exception"]) (B := [.castable "java/lang/IllegalArgumentException" "java/lang/IllegalArgumentException", .declares (Bundle.initS "java/lang/RuntimeException"), .declares (Bundle.initS "java/lang/Exception"), .declares (Bundle.initS "java/lang/Throwable")]) (fun w hw => hts w ((by decide +kernel : ∀ w ∈ (vx_atS RX0 52 "java/lang/IllegalArgumentException" ["java/lang/RuntimeException", "java/lang/Exception"]).filter goodWord, w ∈ wsX0_key) w hw)) (by decide +kernel) (vx_c (va_Nw.use rfl (hE.2.2.1 "java/lang/IllegalArgumentException" (by decide +kernel))) (vx_c (va_Nw.use rfl (hE.2.2.2.1 "java/lang/RuntimeException" (by decide +kernel))) (vx_c (va_Nw.use rfl (hE.2.2.2.1 "java/lang/Exception" (by decide +kernel))) (vx_c (va_Nw.use rfl (hE.2.2.2.1 "java/lang/Throwable" (by decide +kernel))) (vx_n)))))) (by decide +kernel) hE.1 hE.2.1 hS (hl.1.trans hml.symm) dX0_key_29 dX0_key_32 dX0_key_33 dX0_key_35 dX0_key_38 (fun x hx => (hEx x hx).elim) (Nat.le_of_ble_eq_true rfl) (Nat.le_of_ble_eq_true rfl) (Nat.le_of_ble_eq_true rfl) (Nat.le_of_ble_eq_true rfl) hlocks (fun t ha hz hk => ?_) hS.2.2 (Nat.le_of_ble_eq_true rfl) (Nat.le_of_ble_eq_true rfl)
      exact ⟨(cp, cq, cs, cn, nI P, nI Q9, nI G, se, pu), trivial, ⟨⟨rfl, Or.inr (Or.inr ⟨rfl, by rw [dk_fkey, if_neg hdp, if_neg (fun q => q hsl), if_pos hnx]⟩)⟩, hP.kept (fun k q hq => hk q.1 (hP k q hq).lt), va_K.moved ha hK, hD⟩, dk_F hS hz hk⟩
  · have hno : ¬ dk_sl x := fun q9 => by
      rcases hr_5 with ⟨q, -⟩ | ⟨-, q⟩
      · rw [q] at c_8; exact absurd c_8 (by decide)
      · exact q (dk_sl_of.mp q9)
    obtain ⟨sa_11, hs_11⟩ := hE.2.2.2.2.1 (88, "slot is not 0 .. 7") (by decide +kernel)
    refine vx_throwS (own := RX0) (cls := "java/lang/IndexOutOfBoundsException") (text := "slot is not 0 .. 7") (names := ["java/lang/RuntimeException", "java/lang/Exception"]) (ik := 86) (is := 88) (ic := 90) (rest := []) hx hb hl9 hown (by decide +kernel) (by decide +kernel) (hts (.classLink RX0 86 "java/lang/IndexOutOfBoundsException") (by decide +kernel)) (hts (.initialized "java/lang/IndexOutOfBoundsException") (by decide +kernel)) hs_11 (vx_hat (L := vx_atS RX0 90 "java/lang/IndexOutOfBoundsException" ["java/lang/RuntimeException", "java/lang/Exception"]) (B := [.castable "java/lang/IndexOutOfBoundsException" "java/lang/IndexOutOfBoundsException", .declares (Bundle.initS "java/lang/RuntimeException"), .declares (Bundle.initS "java/lang/Exception"), .declares (Bundle.initS "java/lang/Throwable")]) (fun w hw => hts w ((by decide +kernel : ∀ w ∈ (vx_atS RX0 90 "java/lang/IndexOutOfBoundsException" ["java/lang/RuntimeException", "java/lang/Exception"]).filter goodWord, w ∈ wsX0_key) w hw)) (by decide +kernel) (vx_c (va_Nw.use rfl (hE.2.2.1 "java/lang/IndexOutOfBoundsException" (by decide +kernel))) (vx_c (va_Nw.use rfl (hE.2.2.2.1 "java/lang/RuntimeException" (by decide +kernel))) (vx_c (va_Nw.use rfl (hE.2.2.2.1 "java/lang/Exception" (by decide +kernel))) (vx_c (va_Nw.use rfl (hE.2.2.2.1 "java/lang/Throwable" (by decide +kernel))) (vx_n)))))) (by decide +kernel) hE.1 hE.2.1 hS (hl.1.trans hml.symm) dX0_key_11 dX0_key_14 dX0_key_15 dX0_key_17 dX0_key_20 (fun x hx => (hEx x hx).elim) (Nat.le_of_ble_eq_true rfl) (Nat.le_of_ble_eq_true rfl) (Nat.le_of_ble_eq_true rfl) (Nat.le_of_ble_eq_true rfl) hlocks (fun t ha hz hk => ?_) hS.2.2 (Nat.le_of_ble_eq_true rfl) (Nat.le_of_ble_eq_true rfl)
    exact ⟨(cp, cq, cs, cn, nI P, nI Q9, nI G, se, pu), trivial, ⟨⟨rfl, Or.inr (Or.inl ⟨rfl, by rw [dk_fkey, if_neg hdp, if_pos hno]⟩)⟩, hP.kept (fun k q hq => hk q.1 (hP k q hq).lt), va_K.moved ha hK, hD⟩, dk_F hS hz hk⟩

set_option maxHeartbeats 4000000 in
set_option maxRecDepth 100000 in
theorem dk_c_agree (l : Launch) (hl9 : l.stackTraces = false) (dC : Nat → ClassId) (dI : Nat → Nat → Nat) (h0 h1 h2 : Nat) (a1 a2 : ClassId) (cp cq : Int32) (cs : Int64) (cn dp dq dg : Int32) (se pu : Nat → Int32) (x y : Int32) (hI : dk_ID dp dq dg) (hIK : dk_IK dp dq dg se pu) (sz : Nat) : vx_Met l yX0_agree wsX0_agree ({ frames := 7, cells := 2, slots := 12, locals := 103 }) (va_Pc [.ref h0, .int x, .int y] (fun U => U.heap.size = sz ∧ va_P (dC, dI) vwCl [(h0, .inr (0, [.int cp, .int cq, .long cs, .int cn, .int dp, .int dq, .int dg, .ref h1, .ref h2])), (h1, .inl (a1, 8, .inl se)), (h2, .inl (a2, 8, .inl pu))] U.heap ∧ va_K (dC, dI) vwCl [(a1, .int), (a2, .int)] U ∧ va_D (fun _ => True) [(h0, .inr (0, [.int cp, .int cq, .long cs, .int cn, .int dp, .int dq, .int dg, .ref h1, .ref h2])), (h1, .inl (a1, 8, .inl se)), (h2, .inl (a2, 8, .inl pu))] ∧ dk_E (va_A [(h0, .inr (0, [.int cp, .int cq, .long cs, .int cn, .int dp, .int dq, .int dg, .ref h1, .ref h2])), (h1, .inl (a1, 8, .inl se)), (h2, .inl (a2, 8, .inl pu))] sz) U U.heap)) (va_Qi (fun (r9 : Int32) (u9 : dk_S) => u9 = (cp, cq, cs, cn, dp, dq, dg, se, pu) ∧ dk_fagr dp se x y = (0, r9)) (dk_B dC dI (va_A [(h0, .inr (0, [.int cp, .int cq, .long cs, .int cn, .int dp, .int dq, .int dg, .ref h1, .ref h2])), (h1, .inl (a1, 8, .inl se)), (h2, .inl (a2, 8, .inl pu))] sz) h0 h1 h2 a1 a2) (va_A [(h0, .inr (0, [.int cp, .int cq, .long cs, .int cn, .int dp, .int dq, .int dg, .ref h1, .ref h2])), (h1, .inl (a1, 8, .inl se)), (h2, .inl (a2, 8, .inl pu))] sz)) (vx_X (fun _ : dk_S => True) (fun E9 u9 t9 => (u9 = (cp, cq, cs, cn, dp, dq, dg, se, pu) ∧ ((E9 = "java/util/NoSuchElementException" ∧ dk_fagr dp se x y = (1, 0)) ∨ (E9 = "java/lang/IllegalArgumentException" ∧ dk_fagr dp se x y = (2, 0)) ∨ (E9 = "java/lang/ArithmeticException" ∧ dk_fagr dp se x y = (3, 0)))) ∧ dk_B dC dI (va_A [(h0, .inr (0, [.int cp, .int cq, .long cs, .int cn, .int dp, .int dq, .int dg, .ref h1, .ref h2])), (h1, .inl (a1, 8, .inl se)), (h2, .inl (a2, 8, .inl pu))] sz) h0 h1 h2 a1 a2 u9 t9) (va_A [(h0, .inr (0, [.int cp, .int cq, .long cs, .int cn, .int dp, .int dq, .int dg, .ref h1, .ref h2])), (h1, .inl (a1, 8, .inl se)), (h2, .inl (a2, 8, .inl pu))] sz)) 2 12 (va_A [(h0, .inr (0, [.int cp, .int cq, .long cs, .int cn, .int dp, .int dq, .int dg, .ref h1, .ref h2])), (h1, .inl (a1, 8, .inl se)), (h2, .inl (a2, 8, .inl pu))] sz) := by
  refine vx_ofW (cc := cX0_agree) (maxL := 4) (ret := (some .int)) (by decide) rfl ?_
  intro p e s m args below meth c s₁ B hml hEx hv
  obtain ⟨rfl, hsz, hP, hK, hD0, hE⟩ := hv
  have hx := B.exec
  have hb := B.bytes
  have hr := B.returns
  have hts := atoms_spec (ws := wsX0_agree) B.pre
  have hown : s.vm.findClass RX0 = some m.cls := findClass_of_methodNamed B.named
  have hlocks := B.notSynchronized
  subst hsz
  have hD := hD0.self (sz := s.heap.size)
  generalize hAe : va_A [(h0, .inr (0, [.int cp, .int cq, .long cs, .int cn, .int dp, .int dq, .int dg, .ref h1, .ref h2])), (h1, .inl (a1, 8, .inl se)), (h2, .inl (a2, 8, .inl pu))] s.heap.size = A at hD hE ⊢
  have hA : ∀ q : Nat, s.heap.size ≤ q → A q := fun q h => by rw [← hAe]; exact Or.inr h
  have hS : va_S A s.heap s.heap [] := va_S.rf
  have hl := lv_entry ([.ref h0, .int x, .int y]) (n := 4) (Nat.le_of_ble_eq_true rfl)
  rw [lg_entry_eq]
  generalize (lg_sl ([.ref h0, .int x, .int y]) ++ List.replicate (4 - (lg_sl ([.ref h0, .int x, .int y])).length) Slot.unset).toArray = ls at hl ⊢
  have hl : lv_has ls 4 [(0, .ref h0), (1, .int x), (2, .int y)] := hl
  refine lv_aload_n hx hb dX0_agree_0 rfl (lv_at hl 0 rfl) ?_
  refine lv_iload_n hx hb dX0_agree_1 rfl (lv_at hl 1 rfl) ?_
  have hPc := hP.sub (ws' := [(h0, .inr (0, [.int cp, .int cq, .long cs, .int cn, .int dp, .int dq, .int dg, .ref h1, .ref h2])), (h1, .inl (a1, 8, .inl se)), (h2, .inl (a2, 8, .inl pu))]) [0, 1, 2] rfl
  have hDc := hD.sub (ws' := [(h0, .inr (0, [.int cp, .int cq, .long cs, .int cn, .int dp, .int dq, .int dg, .ref h1, .ref h2])), (h1, .inl (a1, 8, .inl se)), (h2, .inl (a2, 8, .inl pu))]) [0, 1, 2] (by decide) rfl
  have hKc := hK.sub (tys' := [(a1, .int), (a2, .int)]) [0, 1] rfl
  have hFc := va_free (wc := [(h0, .inr (0, [.int cp, .int cq, .long cs, .int cn, .int dp, .int dq, .int dg, .ref h1, .ref h2])), (h1, .inl (a1, 8, .inl se)), (h2, .inl (a2, 8, .inl pu))]) hD hS hA [0, 1, 2] rfl
  refine vx_callv (vx_runV (As := [.int x]) (rest := []) ⟨hx, hb, hml, hown, hts⟩ (dk_c_requireKey l hl9 dC dI h0 h1 h2 a1 a2 cp cq cs cn dp dq dg se pu x _) (cwV 1 hts gX0_agree_X0_requireKey rfl rfl rfl (by decide +kernel) ⟨Nat.le_of_ble_eq_true rfl, Nat.le_of_ble_eq_true rfl⟩) ⟨fun a U g mk q => by obtain ⟨q0, q1, qP, qK, qD, qE⟩ := q; exact ⟨q0, q1, qP, va_K.moved (u := U) (U := U.calling g mk a) (Vm.Alike.refl U.vm) qK, qD, qE.blind⟩, va_recv hKc hPc (ci := 0) (q0 := 0) rfl rfl, fun U hU hW => ⟨rfl, by rw [hU], by rw [hU]; exact hPc, va_K.moved hW.alike hKc, hDc.weaken (fun _ _ _ _ => trivial), hE.go hS hFc hU hW⟩⟩ rfl rfl hl.1 rfl (lv_room (Nat.le_of_ble_eq_true rfl)) dX0_agree_2 ⟨Nat.le_of_ble_eq_true rfl, Nat.le_of_ble_eq_true rfl⟩) hS (fun q _ h => hFc q h) hFc (fun q _ h => hFc q h) (fun E9 ce q9 u t H1 locs ht hvm hw hB hz1 hk1 hS hce hcv hcl => ?_) (fun u t H1 locs ht hvm hw hB hz1 hk1 hS => ?_)
  · obtain ⟨hEc, hB⟩ := hB
    obtain ⟨rfl, hE9, hnk⟩ := hEc
    obtain ⟨hP1, hK1, hD1⟩ := hB
    rw [ht] at hP1
    have hK1 := va_K.moved hvm.symm hK1
    obtain ⟨hP, hD⟩ := va_join (wr := []) (w1 := [(h0, .inr (0, [.int cp, .int cq, .long cs, .int cn, .int dp, .int dq, .int dg, .ref h1, .ref h2])), (h1, .inl (a1, 8, .inl se)), (h2, .inl (a2, 8, .inl pu))]) hP hD [0, 1, 2] [] rfl rfl (by decide) (by decide) hk1 hFc hP1 hD1
    have hK := (hK.sub (tys' := []) [] rfl).app hK1
    generalize H1 = H at hP hS hce ⊢
    have hP : va_P (dC, dI) vwCl [(h0, .inr (0, [.int cp, .int cq, .long cs, .int cn, .int dp, .int dq, .int dg, .ref h1, .ref h2])), (h1, .inl (a1, 8, .inl se)), (h2, .inl (a2, 8, .inl pu))] H := hP
    have hD : va_D A [(h0, .inr (0, [.int cp, .int cq, .long cs, .int cn, .int dp, .int dq, .int dg, .ref h1, .ref h2])), (h1, .inl (a1, 8, .inl se)), (h2, .inl (a2, 8, .inl pu))] := hD
    have hK : va_K (dC, dI) vwCl [(a1, .int), (a2, .int)] s := hK
    exact vx_out (E := E9) (fun x hx => (hEx x hx).elim) hlocks hce hcv hcl (fun t ht ha => ⟨(cp, cq, cs, cn, dp, dq, dg, se, pu), trivial, ⟨⟨rfl, Or.inl ⟨hE9, by rw [dk_fagr, if_pos hnk]⟩⟩, by rw [ht]; exact hP, va_K.moved ha hK, hD⟩, hS.F ht⟩) hS.2.2 (Nat.le_of_ble_eq_true rfl) (Nat.le_of_ble_eq_true rfl)
  obtain ⟨rfl, hhk⟩ := hw
  obtain ⟨j, hj, rfl⟩ := dk_sl_of.mp hhk.1
  have hse : ¬ se j = 0 := (dk_hk_nI hj).mp hhk
  obtain ⟨hdp, hex0, -⟩ := (hIK j hj).resolve_left hse
  obtain ⟨P, Q9, G, hP9, hQ9, hdom, rfl, rfl, rfl⟩ := hI.resolve_left (fun q => hdp q.1)
  obtain ⟨hs1, hs2, hs3, hs4, hs5, hs6⟩ := dk_dom_sz hP9 hdom
  obtain ⟨x9, hx91, hx92, hx93⟩ := dk_ex_of hQ9 hex0
  obtain ⟨hP1, hK1, hD1⟩ := hB
  rw [ht] at hP1
  have hK1 := va_K.moved hvm.symm hK1
  obtain ⟨hP, hD⟩ := va_join (wr := []) (w1 := [(h0, .inr (0, [.int cp, .int cq, .long cs, .int cn, .int (nI P), .int (nI Q9), .int (nI G), .ref h1, .ref h2])), (h1, .inl (a1, 8, .inl se)), (h2, .inl (a2, 8, .inl pu))]) hP hD [0, 1, 2] [] rfl rfl (by decide) (by decide) hk1 hFc hP1 hD1
  have hK := (hK.sub (tys' := []) [] rfl).app hK1
  generalize H1 = H at hP hS ⊢
  have hP : va_P (dC, dI) vwCl [(h0, .inr (0, [.int cp, .int cq, .long cs, .int cn, .int (nI P), .int (nI Q9), .int (nI G), .ref h1, .ref h2])), (h1, .inl (a1, 8, .inl se)), (h2, .inl (a2, 8, .inl pu))] H := hP
  have hD : va_D A [(h0, .inr (0, [.int cp, .int cq, .long cs, .int cn, .int (nI P), .int (nI Q9), .int (nI G), .ref h1, .ref h2])), (h1, .inl (a1, 8, .inl se)), (h2, .inl (a2, 8, .inl pu))] := hD
  have hK : va_K (dC, dI) vwCl [(a1, .int), (a2, .int)] s := hK
  refine lv_aload_n hx hb dX0_agree_5 rfl (lv_at hl 0 rfl) ?_
  refine lv_iload_n hx hb dX0_agree_6 rfl (lv_at hl 2 rfl) ?_
  have hPc := hP.sub (ws' := [(h0, .inr (0, [.int cp, .int cq, .long cs, .int cn, .int (nI P), .int (nI Q9), .int (nI G), .ref h1, .ref h2])), (h1, .inl (a1, 8, .inl se)), (h2, .inl (a2, 8, .inl pu))]) [0, 1, 2] rfl
  have hKc := hK.sub (tys' := [(a1, .int), (a2, .int)]) [0, 1] rfl
  refine vp_callSi (W.runV (As := [.int y]) (rest := []) ⟨hx, hb, hml, hown, hts⟩ (dk_c_isPeer l dC dI h0 h1 h2 a1 a2 cp cq cs cn (nI P) (nI Q9) (nI G) se pu y) (cwV 1 hts gX0_agree_X0_isPeer rfl rfl rfl (by decide +kernel) ⟨Nat.le_of_ble_eq_true rfl, Nat.le_of_ble_eq_true rfl⟩) ⟨fun a U g mk q => by obtain ⟨q0, qP, qK⟩ := q; exact ⟨q0, qP, va_K.moved (u := U) (U := U.calling g mk a) (Vm.Alike.refl U.vm) qK⟩, va_recv hKc hPc (ci := 0) (q0 := 0) rfl rfl, fun U hU hW => ⟨rfl, by rw [hU]; exact hPc, va_K.moved hW.alike hKc⟩⟩ rfl rfl hl.1 rfl (lv_room (Nat.le_of_ble_eq_true rfl)) dX0_agree_7 ⟨Nat.le_of_ble_eq_true rfl, Nat.le_of_ble_eq_true rfl⟩) (fun r_7 hr_7 => ?_)
  subst hr_7
  refine lv_if_ne (tgt := 23) hx hb dX0_agree_10 (by decide) (fun c_10 => ?_) (fun c_10 => ?_)
  · have hpe : dk_pe y (nI P) := by
      by_cases q : dk_pe y (nI P)
      · exact q
      · exact absurd (if_neg q) c_10
    obtain ⟨y9, hy1, hy2, rfl⟩ := (dk_pe_of (by omega) hP9).mp hpe
    have hag : dk_pw (nI y9) (se (dk_n (nI j))) (nI P) = nI (y9 ^ x9 % P) := by
      rw [dk_n_nI (by omega), hx93, dk_pw_nI (by omega) (by omega) hP9]
    refine lv_iload_n hx hb dX0_agree_23 rfl (lv_at hl 2 rfl) ?_
    refine lv_aload_n hx hb dX0_agree_24 rfl (lv_at hl 0 rfl) ?_
    refine va_get (D := (dC, dI)) (ci := 0) (v := .ref h1) (C := RX0) (T := TX0) (N := 9) hx hb hts (by decide +kernel) hown hK hP 0 rfl rfl 7 (by decide) (hts (.fieldLink RX0 9 "DomainKeys" "secrets" "[I") (by decide +kernel)) (fun _ h9 => h9) rfl dX0_agree_25 ?_
    refine lv_iload_n hx hb dX0_agree_28 rfl (lv_at hl 1 rfl) ?_
    refine va_iald hx hb hK hP 1 0 rfl rfl (vp_in_nI hj (by decide)) dX0_agree_29 ?_
    refine lv_topi (fun v_29 ev_29 => ?_)
    have ev_29 : v_29 = se j := ev_29.trans (congrArg se (nI_clamp (Nat.lt_trans hj (by decide))))
    subst ev_29
    refine lv_topi (fun v_29 ev_29 => ?_)
    have ev_29 : v_29 = nI x9 := ev_29.trans hx93
    subst ev_29
    refine lv_aload_n hx hb dX0_agree_30 rfl (lv_at hl 0 rfl) ?_
    refine va_get (D := (dC, dI)) (ci := 0) (v := .int (nI P)) (C := RX0) (T := TX0) (N := 9) hx hb hts (by decide +kernel) hown hK hP 0 rfl rfl 4 (by decide) (hts (.fieldLink RX0 66 "DomainKeys" "domainP" "I") (by decide +kernel)) (fun _ h9 => h9) rfl dX0_agree_31 ?_
    refine vp_callSi (W.runS (As := [.int (nI y9), .int (nI x9), .int (nI P)]) (rest := []) ⟨hx, hb, hml, hown, hts⟩ (dk_c_power l y9 x9 P (by omega) (by omega) (by omega) hP9) (va_cwS 3 hts gX0_agree_X0_power rfl rfl rfl (by decide +kernel) ⟨Nat.le_of_ble_eq_true rfl, Nat.le_of_ble_eq_true rfl⟩) ⟨fun _ _ _ _ q9 => q9, fun U hU hW => ⟨rfl, trivial⟩⟩ rfl rfl hl.1 rfl (lv_room (Nat.le_of_ble_eq_true rfl)) dX0_agree_34 ⟨Nat.le_of_ble_eq_true rfl, Nat.le_of_ble_eq_true rfl⟩) (fun r_34 hr_34 => ?_)
    subst hr_34
    refine lv_istore_n (lv' := [(3, .int (nI (y9 ^ x9 % P))), (0, .ref h0), (1, .int (nI j)), (2, .int (nI y9))]) hx hb dX0_agree_37 rfl hl (by decide) rfl (fun ls hl => ?_)
    refine lv_iload_n hx hb dX0_agree_38 rfl (lv_at hl 0 rfl) ?_
    refine lv_iconst (v := 1) hx hb dX0_agree_39 (by decide) ?_
    refine lv_icmp_ne (tgt := 53) hx hb dX0_agree_40 (by decide) (fun c_40 => ?_) (fun c_40 => ?_)
    · refine lv_iload_n hx hb dX0_agree_53 rfl (lv_at hl 0 rfl) ?_
      refine W.widen (k := 2) (n := 12) (Nat.le_of_ble_eq_true rfl) (Nat.le_of_ble_eq_true rfl) ?_
      exact vx_ret (W.iret (v := (nI (y9 ^ x9 % P))) hx hb hr (fun t ht hW => ⟨⟨nI (y9 ^ x9 % P), (cp, cq, cs, cn, nI P, nI Q9, nI G, se, pu), rfl, ⟨rfl, by rw [dk_fagr, if_neg (fun q => q hhk), if_neg (fun q => q hpe), if_neg (fun q => c_40 (hag.symm.trans q)), hag]⟩, by rw [ht]; exact hP, va_K.moved hW.alike hK, hD⟩, hS.F ht⟩) hS.2.2 dX0_agree_54)
    · obtain ⟨sa_43, hs_43⟩ := hE.2.2.2.2.1 (124, "secret would be 1") (by decide +kernel)
      refine vx_throwS (own := RX0) (cls := "java/lang/ArithmeticException") (text := "secret would be 1") (names := ["java/lang/RuntimeException", "java/lang/Exception"]) (ik := 117) (is := 124) (ic := 121) (rest := []) hx hb hl9 hown (by decide +kernel) (by decide +kernel) (hts (.classLink RX0 117 "java/lang/ArithmeticException") (by decide +kernel)) (hts (.initialized "java/lang/ArithmeticException") (by decide +kernel)) hs_43 (vx_hat (L := vx_atS RX0 121 "java/lang/ArithmeticException" ["java/lang/RuntimeException", "java/lang/Exception"]) (B := [.castable "java/lang/ArithmeticException" "java/lang/ArithmeticException", .declares (Bundle.initS "java/lang/RuntimeException"), .declares (Bundle.initS "java/lang/Exception"), .declares (Bundle.initS "java/lang/Throwable")]) (fun w hw => hts w ((by decide +kernel : ∀ w ∈ (vx_atS RX0 121 "java/lang/ArithmeticException" ["java/lang/RuntimeException", "java/lang/Exception"]).filter goodWord, w ∈ wsX0_agree) w hw)) (by decide +kernel) (vx_c (va_Nw.use rfl (hE.2.2.1 "java/lang/ArithmeticException" (by decide +kernel))) (vx_c (va_Nw.use rfl (hE.2.2.2.1 "java/lang/RuntimeException" (by decide +kernel))) (vx_c (va_Nw.use rfl (hE.2.2.2.1 "java/lang/Exception" (by decide +kernel))) (vx_c (va_Nw.use rfl (hE.2.2.2.1 "java/lang/Throwable" (by decide +kernel))) (vx_n)))))) (by decide +kernel) hE.1 hE.2.1 hS (hl.1.trans hml.symm) dX0_agree_43 dX0_agree_46 dX0_agree_47 dX0_agree_49 dX0_agree_52 (fun x hx => (hEx x hx).elim) (Nat.le_of_ble_eq_true rfl) (Nat.le_of_ble_eq_true rfl) (Nat.le_of_ble_eq_true rfl) (Nat.le_of_ble_eq_true rfl) hlocks (fun t ha hz hk => ?_) hS.2.2 (Nat.le_of_ble_eq_true rfl) (Nat.le_of_ble_eq_true rfl)
      exact ⟨(cp, cq, cs, cn, nI P, nI Q9, nI G, se, pu), trivial, ⟨⟨rfl, Or.inr (Or.inr ⟨rfl, by rw [dk_fagr, if_neg (fun q => q hhk), if_neg (fun q => q hpe), if_pos (hag.trans c_40)]⟩)⟩, hP.kept (fun k q hq => hk q.1 (hP k q hq).lt), va_K.moved ha hK, hD⟩, dk_F hS hz hk⟩
  · have hnp : ¬ dk_pe y (nI P) := fun q => by
      rw [if_pos q] at c_10
      exact absurd c_10 (by decide)
    obtain ⟨sa_13, hs_13⟩ := hE.2.2.2.2.1 (122, "peer is not 2 .. p - 2") (by decide +kernel)
    refine vx_throwS (own := RX0) (cls := "java/lang/IllegalArgumentException") (text := "peer is not 2 .. p - 2") (names := ["java/lang/RuntimeException", "java/lang/Exception"]) (ik := 48) (is := 122) (ic := 52) (rest := []) hx hb hl9 hown (by decide +kernel) (by decide +kernel) (hts (.classLink RX0 48 "java/lang/IllegalArgumentException") (by decide +kernel)) (hts (.initialized "java/lang/IllegalArgumentException") (by decide +kernel)) hs_13 (vx_hat (L := vx_atS RX0 52 "java/lang/IllegalArgumentException" ["java/lang/RuntimeException", "java/lang/Exception"]) (B := [.castable "java/lang/IllegalArgumentException" "java/lang/IllegalArgumentException", .declares (Bundle.initS "java/lang/RuntimeException"), .declares (Bundle.initS "java/lang/Exception"), .declares (Bundle.initS "java/lang/Throwable")]) (fun w hw => hts w ((by decide +kernel : ∀ w ∈ (vx_atS RX0 52 "java/lang/IllegalArgumentException" ["java/lang/RuntimeException", "java/lang/Exception"]).filter goodWord, w ∈ wsX0_agree) w hw)) (by decide +kernel) (vx_c (va_Nw.use rfl (hE.2.2.1 "java/lang/IllegalArgumentException" (by decide +kernel))) (vx_c (va_Nw.use rfl (hE.2.2.2.1 "java/lang/RuntimeException" (by decide +kernel))) (vx_c (va_Nw.use rfl (hE.2.2.2.1 "java/lang/Exception" (by decide +kernel))) (vx_c (va_Nw.use rfl (hE.2.2.2.1 "java/lang/Throwable" (by decide +kernel))) (vx_n)))))) (by decide +kernel) hE.1 hE.2.1 hS (hl.1.trans hml.symm) dX0_agree_13 dX0_agree_16 dX0_agree_17 dX0_agree_19 dX0_agree_22 (fun x hx => (hEx x hx).elim) (Nat.le_of_ble_eq_true rfl) (Nat.le_of_ble_eq_true rfl) (Nat.le_of_ble_eq_true rfl) (Nat.le_of_ble_eq_true rfl) hlocks (fun t ha hz hk => ?_) hS.2.2 (Nat.le_of_ble_eq_true rfl) (Nat.le_of_ble_eq_true rfl)
    exact ⟨(cp, cq, cs, cn, nI P, nI Q9, nI G, se, pu), trivial, ⟨⟨rfl, Or.inr (Or.inl ⟨rfl, by rw [dk_fagr, if_neg (fun q => q hhk), if_pos hnp]⟩)⟩, hP.kept (fun k q hq => hk q.1 (hP k q hq).lt), va_K.moved ha hK, hD⟩, dk_F hS hz hk⟩
