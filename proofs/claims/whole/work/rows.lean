section
/-! numbers: primes, powers, Fermat -/
def dk_pr (n : Nat) : Prop := 2 ≤ n ∧ ∀ d : Nat, 2 ≤ d → d < n → ¬ n % d = 0
theorem dk_pr_small {n : Nat} (h2 : 2 ≤ n) (h : ∀ d : Nat, 2 ≤ d → d * d ≤ n → ¬ n % d = 0) : dk_pr n := by
  refine ⟨h2, fun d hd hlt hm => ?_⟩
  obtain ⟨k, hkk⟩ : ∃ k, k = n / d := ⟨_, rfl⟩
  have hk : n = d * k := by
    have := Nat.div_add_mod n d
    rw [hkk]
    omega
  rcases Nat.lt_or_ge n (d * d) with hc | hc
  · have hkd : k < d := by
      rcases Nat.lt_or_ge k d with q | q
      · exact q
      · have := Nat.mul_le_mul_left d q
        omega
    have hk2 : 2 ≤ k := by
      rcases Nat.lt_or_ge k 2 with q | q
      · rcases (show k = 0 ∨ k = 1 by omega) with e | e <;> rw [e] at hk <;> omega
      · exact q
    have hkn : k * k ≤ n := by
      have := Nat.mul_le_mul_right k (Nat.le_of_lt hkd)
      omega
    refine h k hk2 hkn ?_
    rw [hk]
    exact Nat.mul_mod_left d k
  · exact h d hd hc hm
theorem dk_pr_odd {n : Nat} (h2 : 3 ≤ n) (ho : n % 2 = 1) (h : ∀ d : Nat, 3 ≤ d → d % 2 = 1 → d * d ≤ n → ¬ n % d = 0) : dk_pr n := by
  refine dk_pr_small (by omega) (fun d hd hdd hm => ?_)
  rcases (show d % 2 = 0 ∨ d % 2 = 1 by omega) with e | e
  · have h1 : 2 ∣ n := Nat.dvd_trans (Nat.dvd_of_mod_eq_zero e) (Nat.dvd_of_mod_eq_zero hm)
    omega
  · exact h d (by omega) e hdd hm
theorem dk_pr_not {n d : Nat} (hd : 2 ≤ d) (hdd : d * d ≤ n) (hm : n % d = 0) : ¬ dk_pr n := fun h => by
  have h1 : d * 2 ≤ d * d := Nat.mul_le_mul_left d hd
  exact h.2 d hd (by omega) hm
theorem dk_pw_sq {b k m r : Nat} (h : r = b ^ k % m) : r * r % m = b ^ (2 * k) % m := by
  subst h
  rw [← Nat.mul_mod, Nat.two_mul, Nat.pow_add]
theorem dk_pw_mul {b k m r : Nat} (h : r = b ^ k % m) : r * b % m = b ^ (k + 1) % m := by
  subst h
  rw [Nat.mod_mul_mod, Nat.pow_succ]
theorem dk_pw_half (e i : Nat) : e / 2 ^ i = 2 * (e / 2 ^ (i + 1)) + e / 2 ^ i % 2 := by
  rw [Nat.pow_succ, ← Nat.div_div_eq_div_mul]
  omega
/-! small facts on ints and longs -/
theorem dk_lne {n : Nat} (h0 : 0 < n) (h : n < 9223372036854775808) : ¬ lN n = 0 := fun q => by
  have h1 := (pk_lEQ (a := n) (b := 0) h (by decide)).mp q
  omega
theorem dk_su : ∀ n, n < 32 → (((nI n).toUInt32 &&& Int32.toUInt32 31).toBitVec % 32).toNat = n := by decide +kernel
theorem dk_bit {a j : Nat} (ha : a < 2147483648) (hj : j < 32) : (((nI a).toUInt32 >>> ((nI j).toUInt32 &&& Int32.toUInt32 31)).toInt32 &&& 1) = nI (a / 2 ^ j % 2) := by
  have h1 : a / 2 ^ j < 2 ^ 32 := Nat.lt_of_le_of_lt (Nat.div_le_self _ _) (by omega)
  rw [pk_ushrN (by omega) (nI j) j (dk_su j hj), pk_andN h1 1 (by decide)]
theorem dk_i_l {n : Nat} (h : n < 2147483648) : (lN n).toInt32 = nI n := lN_i n
/-! what the document names: H, making, generators -/
theorem dk_nat (x : Int64) : lN x.toUInt64.toNat = x := by
  have h : (lN x.toUInt64.toNat).toUInt64 = x.toUInt64 := by
    show UInt64.ofNat x.toUInt64.toNat = x.toUInt64
    exact UInt64.ofNat_toNat
  exact congrArg UInt64.toInt64 h
theorem dk_lt (x : Int64) : x.toUInt64.toNat < 18446744073709551616 := x.toUInt64.toNat_lt
theorem dk_us (x : Int64) {k : Nat} (hk : k < 64) : (x.toUInt64 >>> ((nI k).toInt64.toUInt64 &&& Int64.toUInt64 63)).toInt64 = lN (x.toUInt64.toNat / 2 ^ k) := by
  have h : ((nI k).toInt64.toUInt64 &&& Int64.toUInt64 63).toNat % 64 = k := by
    rw [nI_l (by omega), UInt64.toNat_and]
    have e : (lN k).toUInt64.toNat = k % 2 ^ 64 := rfl
    have e2 : (Int64.toUInt64 63).toNat = 2 ^ 6 - 1 := by decide
    rw [e, e2, Nat.and_two_pow_sub_one_eq_mod]
    omega
  rw [← dk_nat (x.toUInt64 >>> ((nI k).toInt64.toUInt64 &&& Int64.toUInt64 63)).toInt64]
  congr 1
  show (x.toUInt64 >>> ((nI k).toInt64.toUInt64 &&& Int64.toUInt64 63)).toNat = _
  rw [UInt64.toNat_shiftRight, h, Nat.shiftRight_eq_div_pow]
def dk_h1 (a b : Int64) : Int64 := (a ^^^ 1442695040888963407) * 6364136223846793005 + b
def dk_h2 (x : Int64) : Int64 := x ^^^ (x.toUInt64 >>> ((32 : Int32).toInt64.toUInt64 &&& Int64.toUInt64 63)).toInt64
def dk_h3 (x : Int64) : Int64 := x * 2862933555777941757
def dk_h4 (x : Int64) : Int64 := x ^^^ (x.toUInt64 >>> ((29 : Int32).toInt64.toUInt64 &&& Int64.toUInt64 63)).toInt64
def dk_H (a b : Int64) : Int64 := dk_h4 (dk_h3 (dk_h2 (dk_h1 a b)))
def dk_hN (a b : Int64) : Nat := (dk_H a b).toUInt64.toNat
theorem dk_hN_lt (a b : Int64) : dk_hN a b < 18446744073709551616 := dk_lt _
theorem dk_hus (a b : Int64) {k : Nat} (hk : k < 64) : ((dk_H a b).toUInt64 >>> ((nI k).toInt64.toUInt64 &&& Int64.toUInt64 63)).toInt64 = lN (dk_hN a b / 2 ^ k) := dk_us _ hk
/-- the order q of a seed -/
def dk_q (sd : Int64) : Nat := 16385 + 2 * (dk_hN sd 0 / 2251799813685248)
theorem dk_q_in (sd : Int64) : 16385 ≤ dk_q sd ∧ dk_q sd ≤ 32767 := by
  have h := dk_hN_lt sd 0
  unfold dk_q
  omega
def dk_X (sd : Int64) (c : Nat) : Nat := 1073741824 + dk_hN sd (lN (1 + c)) / 17179869184
theorem dk_X_in (sd : Int64) (c : Nat) : 1073741824 ≤ dk_X sd c ∧ dk_X sd c < 2147483648 := by
  have h := dk_hN_lt sd (lN (1 + c))
  unfold dk_X
  omega
/-- the try at a counter -/
def dk_try (sd : Int64) (c : Nat) : Nat := dk_X sd c - dk_X sd c % (2 * dk_q sd) + 1
theorem dk_try_in (sd : Int64) (c : Nat) : 0 < dk_try sd c ∧ dk_try sd c < 2147483648 := by
  have h := dk_X_in sd c
  have hm : dk_X sd c % (2 * dk_q sd) ≤ dk_X sd c := Nat.mod_le _ _
  have h2 : dk_X sd c % (2 * dk_q sd) % 2 = dk_X sd c % 2 := Nat.mod_mod_of_dvd _ ⟨dk_q sd, rfl⟩
  unfold dk_try
  omega
def dk_ok (sd : Int64) (c : Nat) : Prop := 1073741824 < dk_try sd c ∧ dk_pr (dk_try sd c)
def dk_Mk (sd : Int64) (r : Int32) : Prop :=
  (¬ dk_pr (dk_q sd) ∧ r = -1) ∨ (dk_pr (dk_q sd) ∧ ∃ c : Nat, c < 64 ∧ dk_ok sd c ∧ (∀ j, j < c → ¬ dk_ok sd j) ∧ r = nI c) ∨ (dk_pr (dk_q sd) ∧ (∀ j, j < 64 → ¬ dk_ok sd j) ∧ r = -2)
theorem dk_Mk_one {sd : Int64} {r r' : Int32} (h : dk_Mk sd r) (h' : dk_Mk sd r') : r = r' := by
  rcases h with ⟨h1, rfl⟩ | ⟨h1, c, h2, h3, h4, rfl⟩ | ⟨h1, h2, rfl⟩ <;> rcases h' with ⟨g1, rfl⟩ | ⟨g1, c', g2, g3, g4, rfl⟩ | ⟨g1, g2, rfl⟩
  · rfl
  · exact absurd g1 h1
  · exact absurd g1 h1
  · exact absurd h1 g1
  · rcases Nat.lt_trichotomy c c' with q | q | q
    · exact absurd h3 (g4 c q)
    · rw [q]
    · exact absurd g3 (h4 c' q)
  · exact absurd h3 (g2 c h2)
  · exact absurd h1 g1
  · exact absurd g3 (h2 c' g2)
  · rfl
/-- the g at a count -/
def dk_w (sd : Int64) (ix p k : Nat) : Nat := dk_hN (dk_H sd (lN (100 + ix))) (lN k) / 2 % p
def dk_g (sd : Int64) (ix p q k : Nat) : Nat := dk_w sd ix p k ^ ((p - 1) / q) % p
def dk_Gn (sd : Int64) (ix p q : Nat) (r : Int32) : Prop :=
  (∃ k : Nat, 1 ≤ k ∧ k ≤ 100 ∧ 1 < dk_g sd ix p q k ∧ (∀ j, 1 ≤ j → j < k → ¬ 1 < dk_g sd ix p q j) ∧ r = nI (dk_g sd ix p q k)) ∨ ((∀ j, 1 ≤ j → j ≤ 100 → ¬ 1 < dk_g sd ix p q j) ∧ r = 1)
theorem dk_Gn_one {sd : Int64} {ix p q : Nat} {r r' : Int32} (h : dk_Gn sd ix p q r) (h' : dk_Gn sd ix p q r') : r = r' := by
  rcases h with ⟨k, h1, h2, h3, h4, rfl⟩ | ⟨h1, rfl⟩ <;> rcases h' with ⟨k', g1, g2, g3, g4, rfl⟩ | ⟨g1, rfl⟩
  · rcases Nat.lt_trichotomy k k' with a | a | a
    · exact absurd h3 (g4 k h1 a)
    · rw [a]
    · exact absurd g3 (h4 k' g1 a)
  · exact absurd h3 (g1 k h1 h2)
  · exact absurd g3 (h1 k' g1 g2)
  · rfl
end
section
/-! an exception that the method's own table catches, whether or not the table's classes were resolved before -/
theorem dk_row {e : Env} {S : State} {f : JFrame} {a : Addr} {x : ExceptionTableEntry} {t : List ExceptionTableEntry} {c : ClassId} {cell : Cell} {Q : Handler → Pre} {E : CtlPost} {d : Bool} {acts : List Action} (hx : covers x f.pc = true) (h0 : x.catchType ≠ 0)
    (hl : S.vm.ClassLinks e.platform f.method.cls x.catchType c) (hcell : S.heap[a]? = some cell) (hobj : ∀ k, cell.vm ≠ .statics k)
    (hk : ∃ k, S.vm.classes[cell.cls]? = some k) (hc : ∃ k, S.vm.classes[c]? = some k) :
    wp (findHandler.go f a (x :: t)) Q E e d acts S ↔ if S.vm.assignable cell.cls c = true then Q (.found x.handlerPc) d acts (S.setVm (S.vm.noted f.method.cls x.catchType (.cls c))) else wp (findHandler.go f a t) Q E e d acts (S.setVm (S.vm.noted f.method.cls x.catchType (.cls c))) := by
  simp only [covers] at hx
  obtain ⟨ha, ht⟩ := (resolveClass_links e.toSetting hl).op (op := VmOp.resolveClass f.method.cls x.catchType) rfl
  have hal : S.vm.Alike (S.vm.noted f.method.cls x.catchType (.cls c)) := (Vm.Alike.refl S.vm).noted _ _ _
  obtain ⟨k1, hk1⟩ := hk
  obtain ⟨k2, hk2⟩ := hc
  obtain ⟨k1', hk1', -⟩ := hal.2.2 _ _ hk1
  obtain ⟨k2', hk2', -⟩ := hal.2.2 _ _ hk2
  have hsame := hal.assignable cell.cls c
  cases hfit : S.vm.assignable cell.cls c with
  | true =>
    rw [hfit] at hsame
    simp [findHandler.go, hx, h0, ha, ht, hcell, hobj, hk1', hk2', hsame, VmOp.dirties, VmOp.acts]
  | false =>
    rw [hfit] at hsame
    simp [findHandler.go, hx, h0, ha, ht, hcell, hobj, hk1', hk2', hsame, VmOp.dirties, VmOp.acts]
/-- a row of the table that this exception passes by; the row that takes it -/
def dk_by (pl : Platform) (s : State) (d : ClassId) (pc : Nat) (thrown : ClassId) (y : ExceptionTableEntry) : Prop :=
  covers y pc = false ∨ (y.catchType ≠ 0 ∧ ∃ c, s.vm.ClassLinks pl d y.catchType c ∧ s.vm.assignable thrown c = false)
theorem dk_search {e : Env} {s : State} {f : JFrame} {a : Addr} {cell : Cell} (hobj : ∀ k, cell.vm ≠ .statics k) (hk0 : ∃ k, s.vm.classes[cell.cls]? = some k)
    (x : ExceptionTableEntry) (rest : List ExceptionTableEntry) (hx : covers x f.pc = true) (h0 : x.catchType ≠ 0) {c : ClassId} (hl : s.vm.ClassLinks e.platform f.method.cls x.catchType c) (hfit : s.vm.assignable cell.cls c = true) :
    ∀ (pre : List ExceptionTableEntry) (S : State), s.WarmedH S.vm → S.heap[a]? = some cell → (∀ y ∈ pre, dk_by e.platform s f.method.cls f.pc cell.cls y) →
      ∃ vm', s.WarmedH vm' ∧ ∀ (Q : Handler → Pre) (E : CtlPost) (d : Bool) (acts : List Action), wp (findHandler.go f a (pre ++ x :: rest)) Q E e d acts S ↔ Q (.found x.handlerPc) d acts (S.setVm vm') := by
  obtain ⟨k0, hk0⟩ := hk0
  have one : ∀ {y : ExceptionTableEntry} {c9 : ClassId} {S : State}, s.WarmedH S.vm → s.vm.ClassLinks e.platform f.method.cls y.catchType c9 →
      S.vm.ClassLinks e.platform f.method.cls y.catchType c9 ∧ (∃ k, S.vm.classes[cell.cls]? = some k) ∧ (∃ k, S.vm.classes[c9]? = some k) ∧ S.vm.assignable cell.cls c9 = s.vm.assignable cell.cls c9 ∧ s.WarmedH (S.vm.noted f.method.cls y.catchType (.cls c9)) := by
    intro y c9 S hW h9
    obtain ⟨k1, hk1, -⟩ := hW.alike.2.2 _ _ hk0
    obtain ⟨dk, _, _, kt, hd, _, _, _, _, hkt, _, hopen⟩ := h9.here
    obtain ⟨k2, hk2, -⟩ := hW.alike.2.2 _ _ hkt
    exact ⟨hW.classLinks h9, ⟨k1, hk1⟩, ⟨k2, hk2⟩, hW.alike.assignable _ _, hW.noted hd hopen (State.rightAt_cls h9)⟩
  intro pre
  induction pre with
  | nil =>
    intro S hW hcell _
    obtain ⟨g1, g2, g3, g4, g5⟩ := one hW hl
    refine ⟨_, g5, fun Q E d acts => ?_⟩
    rw [List.nil_append, dk_row hx h0 g1 hcell hobj g2 g3, if_pos (g4.trans hfit)]
  | cons y ys ih =>
    intro S hW hcell hpass
    have hys := fun z hz => hpass z (List.mem_cons_of_mem _ hz)
    by_cases hcov : covers y f.pc = true
    · rcases hpass y List.mem_cons_self with h | ⟨hy0, c9, h9, hno⟩
      · rw [h] at hcov; cases hcov
      · obtain ⟨g1, g2, g3, g4, g5⟩ := one hW h9
        obtain ⟨vm', hW', hq⟩ := ih (S.setVm (S.vm.noted f.method.cls y.catchType (.cls c9))) g5 hcell hys
        refine ⟨vm', hW', fun Q E d acts => ?_⟩
        rw [List.cons_append, dk_row hcov hy0 g1 hcell hobj g2 g3, if_neg (by rw [g4, hno]; decide)]
        exact hq Q E d acts
    · obtain ⟨vm', hW', hq⟩ := ih S hW hcell hys
      refine ⟨vm', hW', fun Q E d acts => ?_⟩
      rw [List.cons_append, Jvm.W.findHandler_go_skip (by simpa using hcov)]
      exact hq Q E d acts
theorem dk_caught {p : Program} {l : Launch} {e : Env} {R : Room} {s : State} {m : MethodId} {args : Array Value} {below : List Frame} {meth : Method} {c : Code} {T : State} {locs : List Loc} {cells slots : Nat}
    (X : Stand p l e R s m args below meth c T locs cells slots) (a : Addr) {g : JFrame} (hg : g.method = m) {cell : Cell} (hcell : T.heap[a]? = some cell) (hobj : cell.vm.isStatics = false) (hk0 : ∃ k, s.vm.classes[cell.cls]? = some k)
    (pre : List ExceptionTableEntry) (x : ExceptionTableEntry) (rest : List ExceptionTableEntry) (hsplit : c.exceptionTable.toList = pre ++ x :: rest)
    (hpass : ∀ y ∈ pre, dk_by e.platform s m.cls g.pc cell.cls y) (hx : covers x g.pc = true) (h0 : x.catchType ≠ 0) {c9 : ClassId} (hl : s.vm.ClassLinks e.platform m.cls x.catchType c9) (hfit : s.vm.assignable cell.cls c9 = true) :
    ∃ vm', Stand p l e R s m args below meth c (T.setVm vm') locs cells slots ∧ Steps p.tables e below ((T.setTop g).pushFrame (.throwing a)) ((T.setVm vm').setTop { g with pc := x.handlerPc, stack := [.ref a] }) := by
  subst hg
  obtain ⟨vm', hW', hq⟩ := dk_search (e := e) (s := s) (f := g) (a := a) (VmData.ne_statics_of hobj) hk0 x rest hx h0 hl hfit pre ((T.setTop g).pushFrame (.throwing a)) X.warmed hcell hpass
  refine ⟨vm', X.noted hW', ?_⟩
  have h := X.here
  obtain ⟨hgo, hw⟩ := h.throwing (g := g) a
  refine Steps.head hgo hw ?_
  have hfd : ∀ (Q : Handler → Pre) (E : CtlPost) (d : Bool) (acts : List Action), wp (findHandler g a) Q E e d acts ((T.setTop g).pushFrame (.throwing a)) ↔ Q (.found x.handlerPc) d acts (((T.setTop g).pushFrame (.throwing a)).setVm vm') := fun Q E d acts => by
    have hm : ((T.setTop g).pushFrame (.throwing a)).vm.method? g.method = some meth := X.method'
    rw [Jvm.W.findHandler_eq hm X.code, hsplit]
    exact hq Q E d acts
  have hst : (stepThrowing e ((T.setTop g).pushFrame (.throwing a)) a (.java g :: T.frames.tail)).1 = (((T.setTop g).pushFrame (.throwing a)).setVm vm').setFrames (.java { g with pc := x.handlerPc, stack := [.ref a] } :: T.frames.tail) := by
    simp only [stepThrowing, searchFrame, vmDo]
    generalize hr : Sem.go _ e false [] ((T.setTop g).pushFrame (.throwing a)) = res
    obtain ⟨as, rfl, ha⟩ := Sem.eq_ok_of hr (a := Handler.found x.handlerPc) (s' := ((T.setTop g).pushFrame (.throwing a)).setVm vm') (acts' := []) (by simp [hfd _ _ _ _])
    rfl
  rw [stepThread_throwing (frames_entered h.top _), hst]
  obtain ⟨g₀, hg⟩ := Option.isSome_iff_exists.mp h.top
  obtain ⟨r, hr⟩ := State.topJava?_eq_some.mp hg
  have hr' : (T.setVm vm').frames = .java g₀ :: r := hr
  have key : ∀ (u : State) (F G : List Frame), ((u.setFrames F).setVm vm').setFrames G = (u.setVm vm').setFrames G := fun u F G => by
    have h1 : (u.setFrames F).setVm vm' = (u.setVm vm').setFrames F := rfl
    rw [h1, State.setFrames_setFrames]
  rw [hr, List.tail_cons, State.pushFrame, key, State.setTop_of_frames _ hr, key, State.setTop_of_frames _ hr']
  exact Steps.refl _
end
section
/-! 'throw new E("text")' of an exception class whose own constructor names its superclass's by another entry (13) of its pool: as the library's law for entry 7 -/
def dk_rx : ByteArray := ⟨#[0x2a, 0x2b, 0xb7, 0x00, 0x0d, 0xb1]⟩
theorem dk_rx_0 : decode dk_rx 0 = .ok (.aload_n 0, 1) := by decide +kernel
theorem dk_rx_1 : decode dk_rx 1 = .ok (.aload_n 1, 1) := by decide +kernel
theorem dk_rx_2 : decode dk_rx 2 = .ok (.invokespecial 13, 3) := by decide +kernel
theorem dk_rx_5 : decode dk_rx 5 = .ok (.return_, 1) := by decide +kernel
def dk_chX (X : String) : List String → List Cond
  | [] => Bundle.passSAtoms X Bundle.tN 13 dk_rx
  | Y :: r => Bundle.passSAtoms X Y 13 dk_rx ++ Bundle.chainSAtoms Y r
def dk_ownX (own : String) (ic : Nat) (X : String) (names : List String) : List Cond :=
  Bundle.throwableAtoms ++ Bundle.throwableSAtoms ++ dk_chX X names ++
  [.methodLink own ic (Bundle.initS X), .instantiable X 6, .castable X X, .selects X Bundle.tFill0 Bundle.tFill0, .selects X Bundle.tFill Bundle.tFill,
   .lays X Bundle.tN "cause" "Ljava/lang/Throwable;", .lays X Bundle.tN "stackTrace" Bundle.steD, .lays X Bundle.tN "suppressedExceptions" Bundle.listD, .lays X Bundle.tN "detailMessage" "Ljava/lang/String;",
   .isRef (.static Bundle.tN "UNASSIGNED_STACK" Bundle.steD), .isRef (.static Bundle.tN "SUPPRESSED_SENTINEL" Bundle.listD),
   .fieldLink Bundle.tN 198 Bundle.tN "backtrace" "Ljava/lang/Object;", .lays Bundle.tN Bundle.tN "backtrace" "Ljava/lang/Object;", .lays X Bundle.tN "backtrace" "Ljava/lang/Object;"]
theorem dk_chainX {args : Array Value} {s : State} {pl : Platform} (hpl : pl.magicAccessors = ({} : Platform).magicAccessors) {top : MethodId} (htop : s.methodNamed? (Bundle.initS Bundle.tN) = some top) (Y : String) (r : List String) (X : String) (hX : Bundle.fit X = true) (hn : ∀ n ∈ Y :: r, Bundle.fit n = true)
    (h : ∀ c ∈ dk_chX X (Y :: r), c.before args s = true) :
      ∃ (P1 : PassC) (Ps : List PassC), Ps.length = (Y :: r).length ∧ P1.LinksS pl s ∧ (∀ P, P ∈ Ps → P.LinksS pl s) ∧ s.methodNamed? (Bundle.initS X) = some P1.m ∧
        P1.sup = firstOf top (Ps.map (·.toPassT)) ∧ PassesOn top (Ps.map (·.toPassT)) := by
  obtain ⟨P, L, hm, hs⟩ := PassC.ofS_atoms (args := args) (s := s) hpl (X := X) (Y := Y) (Bundle.fit_spec hX).1 (Bundle.fit_spec (hn Y List.mem_cons_self)).2 dk_rx_0 dk_rx_1 dk_rx_2 dk_rx_5
    (fun c hc => h c (List.mem_append_left _ hc))
  obtain ⟨P', Ps, hlen, L', hL, hm', hsup, hpass⟩ := Bundle.chainS (args := args) hpl htop r Y (hn Y List.mem_cons_self) (fun n hn' => hn n (List.mem_cons_of_mem _ hn')) (fun c hc => h c (List.mem_append_right _ hc))
  refine ⟨P, P' :: Ps, by simp [hlen], L, ?_, hm, Option.some.inj (hs.symm.trans hm'), hsup, hpass⟩
  intro Q hQ
  rcases List.mem_cons.mp hQ with rfl | hQ
  · exact L'
  · exact hL Q hQ
set_option maxHeartbeats 1000000 in
theorem dk_ctorX {p : Program} {l : Launch} {e : Env} {R : Room} {s : State} {m₀ : MethodId} {args : Array Value} {below : List Frame} {meth : Method} {c : Code} {W : State} {locs : List Loc} {cells slots : Nat} (X : Stand p l e R s m₀ args below meth c W locs cells slots) (hexec : p.tables.exec = Jvm.exec) (htr : e.platform.stackTraces = false) {own cls Y9 : String} {r9 : List String} {ic : Nat}
    (hown : s.vm.findClass own = some m₀.cls) (hcls : Bundle.fit cls = true) (hnames : ∀ n ∈ Y9 :: r9, Bundle.fit n = true)
    (h : ∀ a ∈ dk_ownX own ic cls (Y9 :: r9), a.before args s = true)
    (hlocs : ∀ x ∈ locs, ∀ cell, s.heap[x.base]? = some cell → cell.vm.isStatics = false)
    {a : Addr} {cX : ClassId} {kX : Class} (hfoundX : s.vm.findClass cls = some cX) (hkX : s.vm.classes[cX]? = some kX) (hcell : W.heap[a]? = some (freshCell cX kX)) (hnew : s.heap.size ≤ a)
    {msg : Value} (hmsg : msg.isRef = true)
    {g : JFrame} (hg : g.method = m₀) (hsize : g.locals.size = c.maxLocals) (hlocked : g.locked = none) (hentered : g.entered = []) {rest : List Value} (hstack : g.stack = msg :: .ref a :: .ref a :: rest)
    (hd6 : decode c.code g.pc = .ok (.invokespecial ic, 3)) (hd9 : decode c.code (g.pc + 3) = .ok (.athrow, 1)) (hout : ∀ x ∈ c.exceptionTable.toList, covers x (g.pc + 3) = false)
    (hRframes : (Y9 :: r9).length + 3 < R.frames) (hRlocals : 2 * g.monitorRoom + ((Value.ref a :: rest).map fun v => v.category).sum + (13 * ((Y9 :: r9).length + 1) + 42) ≤ R.locals) (hlocks : meth.locks = false) :
    ∃ U : State, Steps p.tables e below (W.setTop g) U ∧ U.status = .running ∧ Ended U below (.threw a) ∧ s.WarmedH U.vm ∧ s.sameButNew ({ U with vm := s.vm } : State) locs cells slots ∧
      ∃ ce, U.heap[a]? = some ce ∧ s.vm.findClass cls = some ce.cls ∧ ce.vm = .none := by
  have howns : e.platform.frameOwnsMonitors = true := by rw [X.admits.platform]
  have hfin : e.platform.finalization = false := by rw [X.admits.platform]
  have hpl : e.platform.magicAccessors = ({} : Platform).magicAccessors := by rw [X.admits.platform]
  have a' : ∀ x, x ∈ dk_ownX own ic cls (Y9 :: r9) → x.holds args s none s [] = true := fun x hx => h x hx
  obtain ⟨T, Z0, L, -, Y⟩ := ThrowableC.of_atoms (args := args) howns hfin hpl (fun x hx => h x (by simp [dk_ownX, hx]))
  obtain ⟨Z, M, LZ, LM, hnZ⟩ := Init0T.ofS_atoms (args := args) hpl L Y (fun x hx => h x (by simp [dk_ownX, hx]))
  obtain ⟨P1, Ps, hlen, L1, hL, hP1m, hlink1, hlink⟩ := dk_chainX (args := args) hpl hnZ Y9 r9 cls hcls hnames (fun x hx => h x (by simp [dk_ownX, hx]))
  have hfound : s.vm.findClass cls = some P1.m.cls := findClass_of_methodNamed hP1m
  cases Option.some.inj (hfoundX.symm.trans hfound)
  obtain ⟨c1, kX', hc1, hk, hord, -, -, hn6⟩ := Cond.instantiable_spec (a' (.instantiable cls 6) (by simp [dk_ownX]))
  cases Option.some.inj (hc1.symm.trans hfound)
  cases Option.some.inj (hkX.symm.trans hk)
  have hsel0 : selectMethod e.platform s.vm P1.m.cls T.fill0 = .method T.fill0 := by
    obtain ⟨c2, r2, m2, q1, q2, q3, q4, -⟩ := Cond.selects_spec (a' (.selects cls Bundle.tFill0 Bundle.tFill0) (by simp [dk_ownX]))
    cases Option.some.inj (q1.symm.trans hfound)
    cases Option.some.inj (q2.symm.trans (State.methodFound?_of_named Y.fill0 (by decide)))
    cases Option.some.inj (q3.symm.trans Y.fill0)
    rw [Launch.admits_selectMethod X.admits]; exact q4
  have hselF : selectMethod e.platform s.vm P1.m.cls T.fill = .method T.fill := by
    obtain ⟨c2, r2, m2, q1, q2, q3, q4, -⟩ := Cond.selects_spec (a' (.selects cls Bundle.tFill Bundle.tFill) (by simp [dk_ownX]))
    cases Option.some.inj (q1.symm.trans hfound)
    cases Option.some.inj (q2.symm.trans (State.methodFound?_of_named Y.fill (by decide)))
    cases Option.some.inj (q3.symm.trans Y.fill)
    rw [Launch.admits_selectMethod X.admits]; exact q4
  obtain ⟨cellS0, hcS0, hiss⟩ := Y.statics
  obtain ⟨u0, hu0⟩ := Cond.staticRefV Y.unassigned L.unassignedStatic L.statics hcS0 hiss (a' (.isRef (.static Bundle.tN "UNASSIGNED_STACK" Bundle.steD)) (by simp [dk_ownX]))
  obtain ⟨sen, hsen⟩ := Cond.staticRefV Y.sentinel L.sentinelStatic L.statics hcS0 hiss (a' (.isRef (.static Bundle.tN "SUPPRESSED_SENTINEL" Bundle.listD)) (by simp [dk_ownX]))
  obtain ⟨ci198, i198, fB, hk198, hg198, ha198, hsB, -, hnB, htB, hffB⟩ := Cond.ownField (t := .object "java/lang/Object") Y.found L.cls (by decide +kernel) (a' (.fieldLink Bundle.tN 198 Bundle.tN "backtrace" "Ljava/lang/Object;") (by simp [dk_ownX])) (a' (.lays Bundle.tN Bundle.tN "backtrace" "Ljava/lang/Object;") (by simp [dk_ownX])) e.platform hpl
  obtain ⟨cellS, hcS', heS, -, hkeep⟩ := X.same.2.2.2.2.2 T.aS cellS0 hcS0
  have hcellS : W.heap[T.aS]? = some cellS := hcS'
  have hout' : ∀ i, (⟨T.aS, i⟩ : Loc) ∉ locs := fun i hmem => by
    have := hlocs _ hmem cellS0 hcS0
    rw [hiss] at this; cases this
  have hknownS : cellS.vm ≠ .unknown := by
    rw [heS]; intro hu
    rw [show cellS0.vm = .unknown from hu] at hiss
    cases hiss
  have hneS : T.aS ≠ a := Nat.ne_of_lt (Nat.lt_of_lt_of_le (Array.getElem?_eq_some_iff.mp hcS0).1 hnew)
  obtain ⟨iM, hffM⟩ := Y.msg
  obtain ⟨tyC, dC, hdC, hdnC⟩ := Cond.laysAt hfound hk Y.cause (a' (.lays cls Bundle.tN "cause" "Ljava/lang/Throwable;") (by simp [dk_ownX]))
  obtain ⟨tyS, dS, hdS, hdnS⟩ := Cond.laysAt hfound hk Y.stack (a' (.lays cls Bundle.tN "stackTrace" Bundle.steD) (by simp [dk_ownX]))
  obtain ⟨tyP, dP, hdP, hdnP⟩ := Cond.laysAt hfound hk Y.supp (a' (.lays cls Bundle.tN "suppressedExceptions" Bundle.listD) (by simp [dk_ownX]))
  obtain ⟨tyM, dM, hdM, hdnM⟩ := Cond.laysAt hfound hk hffM (a' (.lays cls Bundle.tN "detailMessage" "Ljava/lang/String;") (by simp [dk_ownX]))
  obtain ⟨tyB, dB, hdB, hdnB⟩ := Cond.laysAt hfound hk hffB (a' (.lays cls Bundle.tN "backtrace" "Ljava/lang/Object;") (by simp [dk_ownX]))
  have bC := Cond.laysApart hdB hdC hdnB hdnC (by rw [hnB, Y.causeName]; decide)
  have bS := Cond.laysApart hdB hdS hdnB hdnS (by rw [hnB, Y.stackName]; decide)
  have bP := Cond.laysApart hdB hdP hdnB hdnP (by rw [hnB, Y.suppName]; decide)
  have hskip : SkipFacts T e.platform s (fun u => u) u0 ((preparedCellV T.toThrowableT (freshCell P1.m.cls kX) a u0 sen).withEntry W.cur) :=
    ⟨{ ci198 := ci198, i198 := i198, fBack := fB }, ⟨hk198, hg198, ha198, hsB⟩, by
      have := fresh_default (c := P1.m.cls) tyB
      rw [htB] at this
      simpa [preparedCellV, Cell.setSlot, Cell.withEntry, Array.getElem?_setIfInBounds, bC, bS, bP, bC.symm, bS.symm, bP.symm, defaultValue] using this, fun _ _ => rfl⟩
  obtain ⟨tm, methC, cdC, kC, vm₁, hnC, -, -, -, -, -, -, -, hW₁, st1⟩ := Steps.initColdS (tb := p.tables) (e := e) (below := below) (s := s) (U := W) X.here hexec X.warmed hpl hown (t := Bundle.initS cls) rfl rfl (Bundle.fit_spec hcls).2
    (a' (.methodLink own ic (Bundle.initS cls)) (by simp [dk_ownX])) (h (.instanceMethod (Bundle.initS cls)) (by simp [dk_ownX, dk_chX, Bundle.passSAtoms])) (bytes := dk_rx) (maxL := 2) (h (.code (Bundle.initS cls) dk_rx 2 none) (by simp [dk_ownX, dk_chX, Bundle.passSAtoms]))
    (f := g) hg (a := a) (msg := msg) (rest := .ref a :: rest) hstack hd6
  cases Option.some.inj (hnC.symm.trans hP1m)
  have X₁ := X.noted hW₁
  obtain ⟨vm₂, X₂, st2⟩ := X₁.ctorMessageOffV hexec (g := { g with stack := .ref a :: rest }) hg hsize T L Z LZ M LM (P1 :: Ps)
    (fun P hP => by rcases List.mem_cons.mp hP with rfl | hP; exact L1; exact hL P hP) ⟨hlink1, hlink⟩ (u0 := u0) (sen := sen) (self := a) hmsg (cell := freshCell P1.m.cls kX) (cellS := cellS)
    hcell (fun _ => by simp) (by simp) rfl rfl hsel0 hselF hcellS hneS hknownS (by rw [hkeep _ (hout' _)]; exact hu0) (by rw [hkeep _ (hout' _)]; exact hsen)
    (Takes.of_laid hk hord tyC (by rw [Y.causeType]; rfl)) (Takes.of_laid hk hord tyS (by rw [Y.stackType]; exact fits_refV_array _ u0)) (Takes.of_laid hk hord tyP (by rw [Y.suppType]; exact fits_refV_object _ sen))
    (Takes.of_laid hk hord tyM (by rw [Y.msgType]; exact fits_refV_object _ ⟨msg, hmsg⟩)) Y.objLocals hskip htr [] hd6
    (by simp only [List.length_cons, hlen]; simp only [List.length_cons] at hRframes; omega) (by simp only [List.length_cons, hlen]; simp only [List.length_cons] at hRlocals; exact hRlocals)
  obtain ⟨hwalk, hrun, hended, hWU, hsame⟩ := X₂.athrowLeaves hexec (g := { g with stack := .ref a :: rest, pc := g.pc + 3 }) hg hlocked hentered hout (a := a) (rest := rest) rfl hd9 hlocks
  have hlt : a < ((W.setVm vm₁).setVm vm₂).heap.size := (Array.getElem?_eq_some_iff.mp hcell).1
  have hU := heapAt_setCell_self (s := (W.setVm vm₁).setVm vm₂) (plainBareV T.toThrowableT (freshCell P1.m.cls kX) a u0 sen msg) hlt
  refine ⟨_, st1 _ (fun acts => ?_), hrun, hended, hWU, hsame.weaken (fun y hy hlt' => ?_) (Nat.le_refl _) (Nat.le_refl _), _, hU, hfound, rfl⟩
  · rw [doInvoke_state]
    exact st2 _ hwalk
  · rcases List.mem_append.mp hy with h1 | h1
    · exact h1
    · exfalso
      have hb : y.base = a := by
        simp only [List.mem_cons, List.not_mem_nil, or_false] at h1
        rcases h1 with rfl | rfl | rfl | rfl | rfl <;> rfl
      rw [hb] at hlt'
      exact Nat.not_lt.mpr hnew hlt'
end
section
-- ===== PART A: goes FIRST, ahead of the names: the tables' words, and 'selects' of the private methods out of them =====
/-- a private method of a class that the tables say can be made, by its rows of tables_1 -/
def lw_okq (q : MethodName × Nat) : Prop := (q.1.cls ≠ "java/lang/invoke/MethodHandle" ∧ q.1.cls ≠ "java/lang/invoke/VarHandle") ∧ Cond.instantiable q.1.cls q.2 ∈ tables_1 ∧ Cond.privateMethod q.1 ∈ tables_1 ∧ Cond.instanceMethod q.1 ∈ tables_1
theorem lw_p0 : lw_okq (⟨"java/lang/Throwable", "fillInStackTrace", "(I)Ljava/lang/Throwable;"⟩, 6) := ⟨⟨by decide +kernel, by decide +kernel⟩, List.mem_of_getElem? (i := 140) (by decide +kernel), List.mem_of_getElem? (i := 138) (by decide +kernel), List.mem_of_getElem? (i := 139) (by decide +kernel)⟩
theorem lw_p1 : lw_okq (⟨"DomainKeys", "generatorAt", "(I)I"⟩, 9) := ⟨⟨by decide +kernel, by decide +kernel⟩, List.mem_of_getElem? (i := 12) (by decide +kernel), List.mem_of_getElem? (i := 186) (by decide +kernel), List.mem_of_getElem? (i := 187) (by decide +kernel)⟩
theorem lw_p2 : lw_okq (⟨"DomainKeys", "clearSlot", "(I)V"⟩, 9) := ⟨⟨by decide +kernel, by decide +kernel⟩, List.mem_of_getElem? (i := 12) (by decide +kernel), List.mem_of_getElem? (i := 204) (by decide +kernel), List.mem_of_getElem? (i := 205) (by decide +kernel)⟩
theorem lw_p3 : lw_okq (⟨"DomainKeys", "requireDomain", "()V"⟩, 9) := ⟨⟨by decide +kernel, by decide +kernel⟩, List.mem_of_getElem? (i := 12) (by decide +kernel), List.mem_of_getElem? (i := 216) (by decide +kernel), List.mem_of_getElem? (i := 217) (by decide +kernel)⟩
theorem lw_p4 : lw_okq (⟨"DomainKeys", "isExponent", "(I)Z"⟩, 9) := ⟨⟨by decide +kernel, by decide +kernel⟩, List.mem_of_getElem? (i := 12) (by decide +kernel), List.mem_of_getElem? (i := 239) (by decide +kernel), List.mem_of_getElem? (i := 240) (by decide +kernel)⟩
theorem lw_p5 : lw_okq (⟨"DomainKeys", "requireKey", "(I)V"⟩, 9) := ⟨⟨by decide +kernel, by decide +kernel⟩, List.mem_of_getElem? (i := 12) (by decide +kernel), List.mem_of_getElem? (i := 252) (by decide +kernel), List.mem_of_getElem? (i := 253) (by decide +kernel)⟩
theorem lw_p6 : lw_okq (⟨"DomainKeys", "isPeer", "(I)Z"⟩, 9) := ⟨⟨by decide +kernel, by decide +kernel⟩, List.mem_of_getElem? (i := 12) (by decide +kernel), List.mem_of_getElem? (i := 286) (by decide +kernel), List.mem_of_getElem? (i := 287) (by decide +kernel)⟩
theorem lw_p7 : lw_okq (⟨"DomainKeysModel", "make", "(J)V"⟩, 13) := ⟨⟨by decide +kernel, by decide +kernel⟩, List.mem_of_getElem? (i := 335) (by decide +kernel), List.mem_of_getElem? (i := 389) (by decide +kernel), List.mem_of_getElem? (i := 390) (by decide +kernel)⟩
theorem lw_p8 : lw_okq (⟨"DomainKeysModel", "hasKey", "(I)Z"⟩, 13) := ⟨⟨by decide +kernel, by decide +kernel⟩, List.mem_of_getElem? (i := 335) (by decide +kernel), List.mem_of_getElem? (i := 437) (by decide +kernel), List.mem_of_getElem? (i := 438) (by decide +kernel)⟩
def lw_privs_1 : List (MethodName × Nat) := [(⟨"java/lang/Throwable", "fillInStackTrace", "(I)Ljava/lang/Throwable;"⟩, 6), (⟨"DomainKeys", "generatorAt", "(I)I"⟩, 9), (⟨"DomainKeys", "clearSlot", "(I)V"⟩, 9), (⟨"DomainKeys", "requireDomain", "()V"⟩, 9), (⟨"DomainKeys", "isExponent", "(I)Z"⟩, 9), (⟨"DomainKeys", "requireKey", "(I)V"⟩, 9), (⟨"DomainKeys", "isPeer", "(I)Z"⟩, 9), (⟨"DomainKeysModel", "make", "(J)V"⟩, 13), (⟨"DomainKeysModel", "hasKey", "(I)Z"⟩, 13)]
theorem lw_r1 : ∀ q ∈ lw_privs_1, lw_okq q := List.forall_mem_cons.mpr ⟨lw_p0, List.forall_mem_cons.mpr ⟨lw_p1, List.forall_mem_cons.mpr ⟨lw_p2, List.forall_mem_cons.mpr ⟨lw_p3, List.forall_mem_cons.mpr ⟨lw_p4, List.forall_mem_cons.mpr ⟨lw_p5, List.forall_mem_cons.mpr ⟨lw_p6, List.forall_mem_cons.mpr ⟨lw_p7, List.forall_mem_cons.mpr ⟨lw_p8, fun _ h => absurd h List.not_mem_nil⟩⟩⟩⟩⟩⟩⟩⟩⟩
def lw_privs : List (MethodName × Nat) := lw_privs_1
def lw_tbl : List Cond := k2_sels lw_privs ++ tables_1
theorem lw_privs_ok : ∀ q ∈ lw_privs, lw_okq q := lw_r1
/-! ===== BEGIN words of one list among another's, by their places ===== -/
theorem goodIn_r {big : List Cond} (ws : List Cond) (ps : List Nat) (hp : ws = ps.filterMap (fun i => big[i]?)) (h : ws.all goodWord = true) : GoodIn big ws := by
  intro w hw
  have h1 := List.all_eq_true.mp h w hw
  rw [hp] at hw
  obtain ⟨i, -, hi⟩ := List.mem_filterMap.mp hw
  have hm : w ∈ big := by first | exact List.mem_of_getElem? hi | exact List.getElem?_mem hi
  exact ⟨hm, good_of_word h1⟩
theorem goodIn_app {big a b : List Cond} (ha : GoodIn big a) (hb : GoodIn big b) : GoodIn big (a ++ b) := fun w h => (List.mem_append.mp h).elim (ha w) (hb w)
theorem goodIn_ca {big a b : List Cond} {c : Cond} (ha : GoodIn big (c :: a)) (hb : GoodIn big b) : GoodIn big (c :: (a ++ b)) := fun w h => (List.mem_cons.mp h).elim (fun e => ha w (List.mem_cons.mpr (Or.inl e))) (fun h => (List.mem_append.mp h).elim (fun h => ha w (List.mem_cons.mpr (Or.inr h))) (hb w))
theorem goodIn_sub {big ws : List Cond} (hm : ∀ w ∈ ws, w ∈ big) (h : ws.all goodWord = true) : GoodIn big ws := fun w hw => ⟨hm w hw, good_of_word (List.all_eq_true.mp h w hw)⟩
/-! ===== END ===== -/

/-! ===== BEGIN exceptions that leave a method, and their catching by the caller (launches without stack traces) ===== -/
section VXA
/-! The laws vx_back, vx_callV, vx_callS, vx_callSW, vx_throw0, vx_throwS follow proofs of the library, with one case more: JvmDerived/Free/Laws.lean (Back.of_free), Shelf42/LK1.lean (callV, callS), Shelf/KitTraced.lean (throwNew0V, throwNewS). -/
/-- where a method has thrown q: the class by its name, the cell, what was written, the world -/
def vx_T (XC : String → State → State → Prop) (st : State) (q : Addr) (t : State) (mc ms : Nat) (free : Addr → Prop) : Prop :=
  ∃ (E : String) (ce : Cell) (L : List Loc), XC E st t ∧ t.heap[q]? = some ce ∧ ce.vm = .none ∧ st.vm.findClass E = some ce.cls ∧ st.WarmedH t.vm ∧ st.sameButNew ({ t with vm := st.vm } : State) L mc ms ∧ ∀ z ∈ L, free z.base
def vx_Q (Qc : Array Value → State → Outcome → State → Prop) (XC : String → State → State → Prop) (mc ms : Nat) (free : Addr → Prop) : Array Value → State → Outcome → State → Prop := fun a st o t =>
  (Qc a st o t ∧ ∃ L, FrameEnd st o t L mc ms ∧ ∀ q ∈ L, free q.base) ∨ ∃ q, o = .threw q ∧ vx_T XC st q t mc ms free
/-- a callee that returns or throws -/
def vx_Met (l : Launch) (y : MethodName) (ws : List Cond) (rm : Room) (Pc : Array Value → State → Prop) (Qc : Array Value → State → Outcome → State → Prop) (XC : String → State → State → Prop) (mc ms : Nat) (free : Addr → Prop) : Prop :=
  MetFree l y (headSpec ws rm) Pc (fun _ _ _ _ _ => True) (vx_Q Qc XC mc ms free)
def vx_Post (XC : String → State → State → Prop) (mc ms : Nat) (free : Addr → Prop) : Pt → Array Value → Addr → Pt → Prop := fun A a q B =>
  ∃ (g : JFrame) (mk : MethodId) (t : State) (L : List Loc) (E : String) (ce : Cell), B.U.heap = t.heap ∧ B.U.vm = t.vm ∧ XC E (A.U.calling g mk a) t ∧ t.heap[q]? = some ce ∧ ce.vm = .none ∧ A.U.vm.findClass E = some ce.cls ∧ B.locs = A.locs ++ L ∧ (∀ z ∈ L, free z.base) ∧ B.cells = A.cells + mc ∧ B.slots = A.slots + ms
def vx_Back (l : Launch) (R : Room) (p : Program) (e : Env) (below : List Frame) (s : State) (sargs : Array Value) (y : MethodName) (len W9 : Nat)
    (Pre : Pt → Array Value → Prop) (Post : Pt → Array Value → Option Value → Pt → Prop) (PostX : Pt → Array Value → Addr → Pt → Prop) : Prop :=
  ∀ (m : MethodId) (meth : Method) (c : Code) (A : Pt) (g : JFrame) (ig : Instr) (mk : MethodId) (a : Array Value),
    Stand p l e R s m sargs below meth c A.U A.locs A.cells A.slots → g.method = m → g.locals.size = c.maxLocals → decode c.code g.pc = .ok (ig, len) →
    2 * g.monitorRoom + (g.stack.map fun v => v.category).sum ≤ W9 → A.U.methodNamed? y = some mk → Pre A a →
    (∃ (v : Option Value) (B : Pt), Stand p l e R s m sargs below meth c B.U B.locs B.cells B.slots ∧ Post A a v B ∧
      Steps p.tables e below (doInvoke e (A.U.setTop g) [] mk a).1 (B.U.setTop { g with pc := g.pc + len, stack := v.toList ++ g.stack })) ∨
    (∃ (q : Addr) (B : Pt), Stand p l e R s m sargs below meth c B.U B.locs B.cells B.slots ∧ PostX A a q B ∧
      Steps p.tables e below (doInvoke e (A.U.setTop g) [] mk a).1 ((B.U.setTop g).pushFrame (.throwing q)))
section Payer
variable {l : Launch} {R : Room} {p : Program} {e : Env} {below : List Frame} {s : State} {sargs : Array Value} {y : MethodName} {len W9 : Nat}
theorem vx_back {ws : List Cond} {rm : Room} {Pc : Array Value → State → Prop} {Qc : Array Value → State → Outcome → State → Prop} {XC : String → State → State → Prop} {mc ms : Nat} {free : Addr → Prop} {bytes : ByteArray} {maxL : Nat} {ret : Option FieldType}
    (hM : vx_Met l y ws rm Pc Qc XC mc ms free) (hblind : FrameBlind Pc) (hrc : rm.cells = mc) (hrs : rm.slots = ms)
    (hframes : rm.frames + 1 ≤ R.frames) (hlocals : W9 + (maxL + 11) + rm.locals ≤ R.locals)
    (hws : ∀ w ∈ ws, ∀ a' U, s.WarmedH U.vm → w.before a' U = true) (hcode : Cond.code y bytes maxL ret ∈ ws) (hinit : ∀ a' U, s.WarmedH U.vm → (Cond.initialized y.cls).before a' U = true) :
    vx_Back l R p e below s sargs y len W9 (PreOf R mc ms Pc) (PostOf Qc mc ms free) (vx_Post XC mc ms free) := by
  intro m meth c A g ig mk a X hg hsize hdg hW hn hp
  have h1 : (headSpec ws rm).pre.before a A.U = true := atoms_intro fun w hw => hws w hw _ _ X.warmed
  have h2 : (Cond.code y bytes maxL ret).before a A.U = true := hws _ hcode _ _ X.warmed
  have h3 : (Cond.initialized y.cls).before a A.U = true := hinit _ _ X.warmed
  have h4 : A.cells + (headSpec ws rm).room.cells ≤ R.cells := by rw [show (headSpec ws rm).room.cells = mc from hrc]; exact hp.1
  have h5 : A.slots + (headSpec ws rm).room.slots ≤ R.slots := by rw [show (headSpec ws rm).room.slots = ms from hrs]; exact hp.2.1
  have hPc : Pc a (A.U.calling g mk a) := hblind _ _ _ _ hp.2.2
  obtain ⟨U, Ls, c0, s0⟩ := A
  dsimp only [Pt.U, Pt.locs, Pt.cells, Pt.slots] at h1 h2 h3 h4 h5 X hn hPc ⊢
  obtain ⟨methY, cY, hmY, hcY, -, hlY, -, -, -, -⟩ := Cond.code_spec hn h2
  obtain ⟨kY, hkY, -⟩ := className_of_methodNamed hn
  have hinitY : kY.init = .initialized := Cond.initialized_spec (findClass_of_methodNamed hn) hkY h3
  have h : At U g.method c below := by rw [hg]; exact X.here
  have hlocals9 : W9 + (maxL + 11) + (headSpec ws rm).room.locals ≤ R.locals := hlocals
  have happ : (headSpec ws rm).appliesLoose y e.platform (U.calling g mk a) = true :=
    Spec.appliesLoose_calling (g := g) h hdg hn hkY hinitY
      (X.room_calling (g := g) (R' := (headSpec ws rm).room) hsize hmY hcY hframes (by rw [hlY]; omega) h4 h5) h1
  obtain ⟨mid, hmid⟩ := h.above
  have hfr : (U.setTop g).frames = (.java g :: mid) ++ below := by rw [State.frames_setTop' g h.top, hmid]; rfl
  obtain ⟨o, s₂, hsteps, -, hend, hq⟩ := Steps.callFree hM p X.admits X.cas X.clock (acts := []) hfr happ hPc trivial
  have hq' : vx_Q Qc XC mc ms free a (U.calling g mk a) o s₂ := hq
  rw [State.frames_setTop' g h.top] at hend
  obtain ⟨g₀, hg0⟩ := Option.isSome_iff_exists.mp h.top
  obtain ⟨r, hr⟩ := State.topJava?_eq_some.mp hg0
  have hr' : (({ U with heap := s₂.heap, slotsUsed := s₂.slotsUsed } : State).setVm s₂.vm).frames = .java g₀ :: r := hr
  rcases hq' with ⟨hqc, L, hfe, hL⟩ | ⟨q, rfl, E, ce, L, hx, hce, hcv, hcl, hW₂, hsm, hL⟩
  · obtain ⟨⟨v, rfl⟩, hW₂, e2, q2, q3, q4, q5, q6⟩ := id hfe
    have e3 : s₂ = ({ (U.calling g mk a).setFrames s₂.frames with heap := s₂.heap, slotsUsed := s₂.slotsUsed } : State).setVm s₂.vm := by
      have : s₂ = ({ s₂ with vm := (U.calling g mk a).vm } : State).setVm s₂.vm := rfl
      rw [e2] at this
      exact this
    obtain ⟨c₂, i₂, len₂, hc₂, hd₂, hf₂⟩ := hend
    have hW' : U.WarmedH s₂.vm := hW₂
    have hcc : c₂ = c := by
      have h1 : s₂.code? g.method = U.code? g.method := by
        rw [State.code?_eq, State.code?_eq, hW'.alike.method?]
      exact Option.some.inj (hc₂.symm.trans (h1.trans h.code))
    subst hcc
    have hlen : len₂ = len := by rw [hdg] at hd₂; cases hd₂; rfl
    subst hlen
    have hs₂ : s₂ = (({ U with heap := s₂.heap, slotsUsed := s₂.slotsUsed } : State).setVm s₂.vm).setTop { g with pc := g.pc + len₂, stack := v.toList ++ g.stack } := by
      refine e3.trans ?_
      rw [hf₂, State.calling_eq h.top, State.setFrames_setFrames, State.setTop_of_frames _ hr', hr]
      rfl
    have hsame : U.sameButNew ({ U with heap := s₂.heap, slotsUsed := s₂.slotsUsed } : State) L mc ms := by
      refine ⟨?_, q2, q3, q4, q5, q6⟩
      obtain ⟨t, ht, -⟩ := State.frames_cons hr
      show ({ U with heap := s₂.heap, slotsUsed := s₂.slotsUsed } : State) = { U.setFrames U.frames with heap := s₂.heap, slotsUsed := s₂.slotsUsed }
      rw [State.setFrames_self ht]
    subst hg
    refine Or.inl ⟨v, ⟨(({ U with heap := s₂.heap, slotsUsed := s₂.slotsUsed } : State).setVm s₂.vm), Ls ++ L, c0 + mc, s0 + ms⟩,
      ⟨X.admits, X.cas, X.clock, X.frames, X.room, X.hears, X.method, X.code, (X.here.setHeapUsed s₂.heap s₂.slotsUsed).setVm hW'.alike, X.tail, State.WarmedH.trans X.warmed hW', X.limits, X.bytes, X.same.trans (hsame.setVm s.vm)⟩,
      ⟨g, mk, s₂, L, rfl, rfl, hqc, rfl, hL, rfl, rfl⟩, ?_⟩
    show Steps p.tables e below _ ((({ U with heap := s₂.heap, slotsUsed := s₂.slotsUsed } : State).setVm s₂.vm).setTop { g with pc := g.pc + len₂, stack := v.toList ++ g.stack })
    rw [← hs₂]
    exact hsteps
  · obtain ⟨e2, q2, q3, q4, q5, q6⟩ := id hsm
    have e3 : s₂ = ({ (U.calling g mk a).setFrames s₂.frames with heap := s₂.heap, slotsUsed := s₂.slotsUsed } : State).setVm s₂.vm := by
      have : s₂ = ({ s₂ with vm := (U.calling g mk a).vm } : State).setVm s₂.vm := rfl
      rw [e2] at this
      exact this
    have hf₂ : s₂.frames = .throwing q :: .java g :: U.frames.tail := hend
    have hW' : U.WarmedH s₂.vm := hW₂
    have hs₂ : s₂ = ((({ U with heap := s₂.heap, slotsUsed := s₂.slotsUsed } : State).setVm s₂.vm).setTop g).pushFrame (.throwing q) := by
      refine e3.trans ?_
      rw [hf₂, State.calling_eq h.top, State.setFrames_setFrames, State.pushFrame, State.frames_setTop _ hr', State.setTop_of_frames _ hr', State.setFrames_setFrames, hr]
      rfl
    have hsame : U.sameButNew ({ U with heap := s₂.heap, slotsUsed := s₂.slotsUsed } : State) L mc ms := by
      refine ⟨?_, q2, q3, q4, q5, q6⟩
      obtain ⟨t, ht, -⟩ := State.frames_cons hr
      show ({ U with heap := s₂.heap, slotsUsed := s₂.slotsUsed } : State) = { U.setFrames U.frames with heap := s₂.heap, slotsUsed := s₂.slotsUsed }
      rw [State.setFrames_self ht]
    subst hg
    refine Or.inr ⟨q, ⟨(({ U with heap := s₂.heap, slotsUsed := s₂.slotsUsed } : State).setVm s₂.vm), Ls ++ L, c0 + mc, s0 + ms⟩,
      ⟨X.admits, X.cas, X.clock, X.frames, X.room, X.hears, X.method, X.code, (X.here.setHeapUsed s₂.heap s₂.slotsUsed).setVm hW'.alike, X.tail, State.WarmedH.trans X.warmed hW', X.limits, X.bytes, X.same.trans (hsame.setVm s.vm)⟩,
      ⟨g, mk, s₂, L, E, ce, rfl, rfl, hx, hce, hcv, hcl, rfl, hL, rfl, rfl⟩, ?_⟩
    show Steps p.tables e below _ (((({ U with heap := s₂.heap, slotsUsed := s₂.slotsUsed } : State).setVm s₂.vm).setTop g).pushFrame (.throwing q))
    rw [← hs₂]
    exact hsteps
end Payer
section Calls
variable {p : Program} {l : Launch} {e : Env} {R : Room} {s : State} {m : MethodId} {args : Array Value} {below : List Frame} {meth : Method} {c : Code} {T : State} {locs : List Loc} {cells slots : Nat}
theorem vx_callV (X : Stand p l e R s m args below meth c T locs cells slots) (hexec : p.tables.exec = Jvm.exec) {own C : String} {index : Nat} {y : MethodName} {bytes : ByteArray} {maxL : Nat} {ret : Option FieldType}
    (hown : s.vm.findClass own = some m.cls) (hlink : (Cond.methodLink own index y).before args s = true) (hinst : (Cond.instanceMethod y).before args s = true) (hsel : (Cond.selects C y y).before args s = true)
    (hcode : (Cond.code y bytes maxL ret).before args s = true) (hy : y.cls ≠ "java/lang/invoke/MethodHandle" ∧ y.cls ≠ "java/lang/invoke/VarHandle")
    {W9 : Nat} {Pre : Pt → Array Value → Prop} {Post : Pt → Array Value → Option Value → Pt → Prop} {PostX : Pt → Array Value → Addr → Pt → Prop} (hK : vx_Back l R p e below s args y 3 W9 Pre Post PostX)
    {b : Addr} {cellB : Cell} (hcell : T.heap[b]? = some cellB) (hobj : cellB.vm.isStatics = false) (hcls : s.vm.findClass C = some cellB.cls)
    {g : JFrame} (hg : g.method = m) (hsize : g.locals.size = c.maxLocals) {argsL rest : List Value} (hlen : ∀ sig, parseMethodDescriptor y.desc = some sig → argsL.length = sig.parameters.length)
    (hstack : g.stack = argsL.reverse ++ .ref b :: rest) (hW : 2 * g.monitorRoom + (rest.map fun v => v.category).sum ≤ W9) (hdg : decode c.code g.pc = .ok (.invokevirtual index, 3))
    (hpre : ∀ vm₁, s.WarmedH vm₁ → Pre ⟨T.setVm vm₁, locs, cells, slots⟩ (Value.ref b :: argsL).toArray) :
    (∃ (v : Option Value) (vm₁ : Vm) (B : Pt), s.WarmedH vm₁ ∧ Stand p l e R s m args below meth c B.U B.locs B.cells B.slots ∧ Post ⟨T.setVm vm₁, locs, cells, slots⟩ (Value.ref b :: argsL).toArray v B ∧
      ∀ target, Steps p.tables e below (B.U.setTop { g with pc := g.pc + 3, stack := v.toList ++ rest }) target → Steps p.tables e below (T.setTop g) target) ∨
    (∃ (q : Addr) (vm₁ : Vm) (B : Pt), s.WarmedH vm₁ ∧ Stand p l e R s m args below meth c B.U B.locs B.cells B.slots ∧ PostX ⟨T.setVm vm₁, locs, cells, slots⟩ (Value.ref b :: argsL).toArray q B ∧
      Steps p.tables e below (T.setTop g) ((B.U.setTop { g with stack := rest }).pushFrame (.throwing q))) := by
  obtain ⟨mk, methM, hnamed, hmethM, hstM, habM⟩ := Cond.instanceMethod_spec hinst
  obtain ⟨methM', cM, hmethM', -, -, -, -, -, -, hsigM⟩ := Cond.code_spec hnamed hcode
  cases hmethM.symm.trans hmethM'
  obtain ⟨c2, r2, m2, q1, q2, q3, q4, kP, hkP, hkPi⟩ := Cond.selects_spec hsel
  cases hcls.symm.trans q1
  cases (State.methodFound?_of_named hnamed hy).symm.trans q2
  cases hnamed.symm.trans q3
  have hselP : selectMethod e.platform s.vm cellB.cls mk = .method mk := by rw [Launch.admits_selectMethod X.admits]; exact q4
  obtain ⟨vm₁, X₁, hstep₁⟩ := X.invokevirtual hexec hown hlink hnamed hmethM hstM hkP hkPi hy (a := b) (cell := cellB) hcell
    (fun z h => by rw [h] at hobj; cases hobj) hselP hmethM habM hkP hkPi (g := g) hg (argsL := argsL) (rest := rest) (hlen _ hsigM) hstack hdg
  rcases hK m meth c ⟨T.setVm vm₁, locs, cells, slots⟩ { g with stack := rest } (.invokevirtual index) mk (Value.ref b :: argsL).toArray X₁ hg hsize hdg hW (X₁.named hnamed) (hpre vm₁ X₁.warmed) with ⟨v, B, X', hpost, hsteps⟩ | ⟨q, B, X', hpost, hsteps⟩
  · exact Or.inl ⟨v, vm₁, B, X₁.warmed, X', hpost, fun target h => hstep₁ _ fun acts => by rw [doInvoke_state]; exact hsteps.trans h⟩
  · exact Or.inr ⟨q, vm₁, B, X₁.warmed, X', hpost, hstep₁ _ fun acts => by rw [doInvoke_state]; exact hsteps⟩
theorem vx_callS (X : Stand p l e R s m args below meth c T locs cells slots) (hexec : p.tables.exec = Jvm.exec) {own : String} {index : Nat} {y : MethodName} {bytes : ByteArray} {maxL : Nat} {ret : Option FieldType}
    (hown : s.vm.findClass own = some m.cls) (hlink : (Cond.methodLink own index y).before args s = true) (hstat : (Cond.static y).before args s = true) (hinit : (Cond.initialized y.cls).before args s = true)
    (hcode : (Cond.code y bytes maxL ret).before args s = true) (hy : y.cls ≠ "java/lang/invoke/MethodHandle" ∧ y.cls ≠ "java/lang/invoke/VarHandle")
    {W9 : Nat} {Pre : Pt → Array Value → Prop} {Post : Pt → Array Value → Option Value → Pt → Prop} {PostX : Pt → Array Value → Addr → Pt → Prop} (hK : vx_Back l R p e below s args y 3 W9 Pre Post PostX)
    {g : JFrame} (hg : g.method = m) (hsize : g.locals.size = c.maxLocals) {argsL rest : List Value} (hlen : ∀ sig, parseMethodDescriptor y.desc = some sig → argsL.length = sig.parameters.length)
    (hstack : g.stack = argsL.reverse ++ rest) (hW : 2 * g.monitorRoom + (rest.map fun v => v.category).sum ≤ W9) (hdg : decode c.code g.pc = .ok (.invokestatic index, 3))
    (hpre : ∀ vm₁, s.WarmedH vm₁ → Pre ⟨T.setVm vm₁, locs, cells, slots⟩ argsL.toArray) :
    (∃ (v : Option Value) (vm₁ : Vm) (B : Pt), s.WarmedH vm₁ ∧ Stand p l e R s m args below meth c B.U B.locs B.cells B.slots ∧ Post ⟨T.setVm vm₁, locs, cells, slots⟩ argsL.toArray v B ∧
      ∀ target, Steps p.tables e below (B.U.setTop { g with pc := g.pc + 3, stack := v.toList ++ rest }) target → Steps p.tables e below (T.setTop g) target) ∨
    (∃ (q : Addr) (vm₁ : Vm) (B : Pt), s.WarmedH vm₁ ∧ Stand p l e R s m args below meth c B.U B.locs B.cells B.slots ∧ PostX ⟨T.setVm vm₁, locs, cells, slots⟩ argsL.toArray q B ∧
      Steps p.tables e below (T.setTop g) ((B.U.setTop { g with stack := rest }).pushFrame (.throwing q))) := by
  obtain ⟨mk, hnamed⟩ := Cond.code_named hcode
  obtain ⟨methM, cM, hmethM, -, -, -, -, -, -, hsigM⟩ := Cond.code_spec hnamed hcode
  have hstatic : methM.isStatic = true := Cond.static_spec hnamed hmethM hstat
  obtain ⟨kP, hkP, -⟩ := className_of_methodNamed hnamed
  have hinitP : kP.init = .initialized := Cond.initialized_spec (findClass_of_methodNamed hnamed) hkP hinit
  obtain ⟨vm₁, X₁, hstep₁⟩ := X.invokestatic hexec hown hlink hnamed hmethM hstatic hkP hinitP hy (g := g) hg (argsL := argsL) (rest := rest) (hlen _ hsigM) hstack hdg
  rcases hK m meth c ⟨T.setVm vm₁, locs, cells, slots⟩ { g with stack := rest } (.invokestatic index) mk argsL.toArray X₁ hg hsize hdg hW (X₁.named hnamed) (hpre vm₁ X₁.warmed) with ⟨v, B, X', hpost, hsteps⟩ | ⟨q, B, X', hpost, hsteps⟩
  · exact Or.inl ⟨v, vm₁, B, X₁.warmed, X', hpost, fun target h => hstep₁ _ fun acts => by rw [doInvoke_state]; exact hsteps.trans h⟩
  · exact Or.inr ⟨q, vm₁, B, X₁.warmed, X', hpost, hstep₁ _ fun acts => by rw [doInvoke_state]; exact hsteps⟩
end Calls
theorem vx_cls {s : State} {T : State} {vm₁ : Vm} {E : String} {k : ClassId} (hW : s.WarmedH vm₁) (h : (T.setVm vm₁).vm.findClass E = some k) : s.vm.findClass E = some k := by
  have h1 : vm₁.findClass E = some k := h
  rw [hW.alike.findClass] at h1
  exact h1
/-- the method's frame g, with q thrown over it -/
def vx_W (p : Program) (l : Launch) (e : Env) (R : Room) (s : State) (m : MethodId) (args : Array Value) (below : List Frame) (meth : Method) (c : Code) (H : Heap) (locs : List Loc) (cells slots : Nat) (Q : State → Prop) (g : JFrame) (q : Addr) : Prop :=
  ∀ T : State, T.heap = H → Stand p l e R s m args below meth c T locs cells slots → ∃ t, Steps p.tables e below ((T.setTop g).pushFrame (.throwing q)) t ∧ Q t
def vx_Run (p : Program) (l : Launch) (e : Env) (R : Room) (s : State) (m : MethodId) (args : Array Value) (below : List Frame) (meth : Method) (c : Code) (H : Heap) (locs : List Loc) (cells slots mc ms : Nat) (g : JFrame) (rest : List Value) (Qa : State → Outcome → State → Prop) (XC : String → State → State → Prop) (free : Addr → Prop) : Prop :=
  ∀ T : State, T.heap = H → Stand p l e R s m args below meth c T locs cells slots →
    (∃ (v : Option Value) (st₀ t T' : State) (L : List Loc), st₀.heap = H ∧ Stand p l e R s m args below meth c T' (locs ++ L) (cells + mc) (slots + ms) ∧ (∀ q ∈ L, free q.base) ∧ T'.heap = t.heap ∧ T'.vm = t.vm ∧ Qa st₀ (.returned v) t ∧
      Goes p e below T g T' { g with pc := g.pc + 3, stack := v.toList ++ rest }) ∨
    (∃ (q : Addr) (st₀ t T' : State) (L : List Loc) (E : String) (ce : Cell), st₀.heap = H ∧ Stand p l e R s m args below meth c T' (locs ++ L) (cells + mc) (slots + ms) ∧ (∀ z ∈ L, free z.base) ∧ T'.heap = t.heap ∧ T'.vm = t.vm ∧ XC E st₀ t ∧ t.heap[q]? = some ce ∧ ce.vm = .none ∧ s.vm.findClass E = some ce.cls ∧
      Steps p.tables e below (T.setTop g) ((T'.setTop { g with stack := rest }).pushFrame (.throwing q)))
def vx_X {S : Type} (px : S → Prop) (B : String → S → State → Prop) (A : Nat → Prop) : String → State → State → Prop := fun E st t => ∃ u : S, px u ∧ B E u t ∧ va_F A st t
section Runs
variable {p : Program} {l : Launch} {e : Env} {R : Room} {s : State} {m : MethodId} {args : Array Value} {below : List Frame} {meth : Method} {c : Code} {H : Heap} {locs : List Loc} {cells slots : Nat}
variable {y : MethodName} {bytes cc : ByteArray} {maxL nL mc ms n index : Nat} {ret : Option FieldType} {ws : List Cond} {rm : Room} {Pc : Array Value → State → Prop} {Qc : Array Value → State → Outcome → State → Prop} {XC : String → State → State → Prop} {free : Addr → Prop} {Ts : List Cond} {own C : String} {b : Addr} {As rest : List Value} {g : JFrame}
theorem vx_callBack (cb : CallB R s args own index y bytes maxL ret ws rm mc ms n) (hM : vx_Met l y ws rm Pc Qc XC mc ms free) (hbl : FrameBlind Pc) : vx_Back l R p e below s args y 3 8 (PreOf R mc ms Pc) (PostOf Qc mc ms free) (vx_Post XC mc ms free) := by
  obtain ⟨hrc, hrs, hfr, hlo, hws, hcw, -, hini, -⟩ := cb
  exact vx_back (bytes := bytes) (maxL := maxL) (ret := ret) hM hbl hrc hrs hfr hlo hws hcw (fun a' U hW => word_at hW (Or.inl (by first | rfl | simp [Cond.onTables, Cond.keeps, Cond.steady])) hini)
theorem vx_runV (S : CallFix p m c cc nL s args Ts own) (hM : vx_Met l y ws rm Pc Qc XC mc ms free) (cw : CallW R s args own C index y bytes maxL ret ws rm mc ms n) (hp : PreV s H C b Pc As)
    (hg : g.method = m) (hn : As.length = n) (hsize : g.locals.size = nL) (hstack : g.stack = As.reverse ++ .ref b :: rest) (hW : 2 * g.monitorRoom + (rest.map fun v => v.category).sum ≤ 8) (hdg : decode cc g.pc = .ok (.invokevirtual index, 3)) (hf : cells + mc ≤ R.cells ∧ slots + ms ≤ R.slots) :
    vx_Run p l e R s m args below meth c H locs cells slots mc ms g rest (Qc (Value.ref b :: As).toArray) XC free := by
  have hK : vx_Back l R p e below s args y 3 8 (PreOf R mc ms Pc) (PostOf Qc mc ms free) (vx_Post XC mc ms free) := vx_callBack cw.1 hM hp.1
  obtain ⟨⟨-, -, -, -, -, -, hcode, -, hy, hlen, hl⟩, hin, hse⟩ := cw
  obtain ⟨hx, hb, hml, ho, -⟩ := S
  obtain ⟨-, ⟨cellB, hcB, hoB, hclB⟩, hPc⟩ := hp
  intro T hT X
  rcases vx_callV X hx (C := C) (bytes := bytes) (maxL := maxL) (ret := ret) ho hl hin hse hcode hy hK (by rw [hT]; exact hcB) hoB hclB hg (hsize.trans hml.symm) (argsL := As) (rest := rest) (fun sig h => hn.trans (hlen sig h)) hstack hW (by rw [hb]; exact hdg)
    (fun vm₁ hW₁ => ⟨hf.1, hf.2, hPc (T.setVm vm₁) hT hW₁⟩) with ⟨v, vm₁, ⟨U', l2, c2, s2⟩, hW₁, X', ⟨g', mk, t, L, e1, e2, hq, h1, hL, h2, h3⟩, st⟩ | ⟨q, vm₁, ⟨U', l2, c2, s2⟩, hW₁, X', ⟨g', mk, t, L, E, ce, e1, e2, hq, hce, hcv, hcl, h1, hL, h2, h3⟩, st⟩
  · dsimp only [Pt.U, Pt.locs, Pt.cells, Pt.slots] at X' e1 e2 h1 h2 h3 st
    subst h1; subst h2; subst h3
    exact Or.inl ⟨v, (T.setVm vm₁).calling g' mk (Value.ref b :: As).toArray, t, U', L, hT, X', hL, e1, e2, hq, st⟩
  · dsimp only [Pt.U, Pt.locs, Pt.cells, Pt.slots] at X' e1 e2 h1 h2 h3 st hcl
    subst h1; subst h2; subst h3
    exact Or.inr ⟨q, (T.setVm vm₁).calling g' mk (Value.ref b :: As).toArray, t, U', L, E, ce, hT, X', hL, e1, e2, hq, hce, hcv, vx_cls hW₁ hcl, st⟩
theorem vx_runS (S : CallFix p m c cc nL s args Ts own) (hM : vx_Met l y ws rm Pc Qc XC mc ms free) (cw : CallB R s args own index y bytes maxL ret ws rm mc ms n ∧ (Cond.static y).before args s = true) (hp : PreS s H Pc As)
    (hg : g.method = m) (hn : As.length = n) (hsize : g.locals.size = nL) (hstack : g.stack = As.reverse ++ rest) (hW : 2 * g.monitorRoom + (rest.map fun v => v.category).sum ≤ 8) (hdg : decode cc g.pc = .ok (.invokestatic index, 3)) (hf : cells + mc ≤ R.cells ∧ slots + ms ≤ R.slots) :
    vx_Run p l e R s m args below meth c H locs cells slots mc ms g rest (Qc As.toArray) XC free := by
  have hK : vx_Back l R p e below s args y 3 8 (PreOf R mc ms Pc) (PostOf Qc mc ms free) (vx_Post XC mc ms free) := vx_callBack cw.1 hM hp.1
  obtain ⟨⟨-, -, -, -, -, -, hcode, hini, hy, hlen, hl⟩, hstt⟩ := cw
  obtain ⟨hx, hb, hml, ho, -⟩ := S
  intro T hT X
  rcases vx_callS X hx (bytes := bytes) (maxL := maxL) (ret := ret) ho hl hstt hini hcode hy hK hg (hsize.trans hml.symm) (argsL := As) (rest := rest) (fun sig h => hn.trans (hlen sig h)) hstack hW (by rw [hb]; exact hdg)
    (fun vm₁ hW₁ => ⟨hf.1, hf.2, hp.2 (T.setVm vm₁) hT hW₁⟩) with ⟨v, vm₁, ⟨U', l2, c2, s2⟩, hW₁, X', ⟨g', mk, t, L, e1, e2, hq, h1, hL, h2, h3⟩, st⟩ | ⟨q, vm₁, ⟨U', l2, c2, s2⟩, hW₁, X', ⟨g', mk, t, L, E, ce, e1, e2, hq, hce, hcv, hcl, h1, hL, h2, h3⟩, st⟩
  · dsimp only [Pt.U, Pt.locs, Pt.cells, Pt.slots] at X' e1 e2 h1 h2 h3 st
    subst h1; subst h2; subst h3
    exact Or.inl ⟨v, (T.setVm vm₁).calling g' mk As.toArray, t, U', L, hT, X', hL, e1, e2, hq, st⟩
  · dsimp only [Pt.U, Pt.locs, Pt.cells, Pt.slots] at X' e1 e2 h1 h2 h3 st hcl
    subst h1; subst h2; subst h3
    exact Or.inr ⟨q, (T.setVm vm₁).calling g' mk As.toArray, t, U', L, E, ce, hT, X', hL, e1, e2, hq, hce, hcv, vx_cls hW₁ hcl, st⟩
end Runs
section Rows
variable {p : Program} {l : Launch} {e : Env} {R : Room} {s : State} {m : MethodId} {args : Array Value} {below : List Frame} {meth : Method} {c : Code} {H : Heap} {locs : List Loc} {cells slots : Nat} {Q : State → Prop}
variable {mc ms : Nat} {free : Addr → Prop} {A0 A1 : Nat → Prop} {H0 : Heap} {a : Array Value} {pc : Nat} {ls : Array Slot} {st0 rest : List Value}
theorem vx_keep {st₀ t T' : State} {L : List Loc} (h0 : st₀.heap = H) (e1 : T'.heap = t.heap) (hS : va_S A0 H0 H locs) (hA : ∀ q, q < H.size → A1 q → A0 q) (hf : ∀ q, free q → A0 q) (hL : ∀ q ∈ L, free q.base) (hF : va_F A1 st₀ t) :
    H.size ≤ T'.heap.size ∧ (∀ q : Nat, q < H.size → ¬ A1 q → T'.heap[q]? = H[q]?) ∧ va_S A0 H0 T'.heap (locs ++ L) := by
  obtain ⟨hz, hk⟩ := hF
  rw [h0] at hz hk
  exact ⟨by rw [e1]; exact hz, fun q h1 h2 => by rw [e1]; exact hk q h1 h2,
    ⟨Nat.le_trans hS.1 (by rw [e1]; exact hz), fun q h1 h2 => by rw [e1, hk q (Nat.lt_of_lt_of_le h1 hS.1) (fun z => h2 (hA q (Nat.lt_of_lt_of_le h1 hS.1) z))]; exact hS.2.1 q h1 h2, fun q hq => by
      rcases List.mem_append.mp hq with h | h
      · exact hS.2.2 q h
      · exact hf _ (hL q h)⟩⟩
theorem vx_calli {S SX : Type} {post : Int32 → S → Prop} {px : SX → Prop} {B : S → State → Prop} {BX : String → SX → State → Prop} {AX : Nat → Prop} (hr : vx_Run p l e R s m args below meth c H locs cells slots mc ms (F0 m pc ls st0) rest (va_Qi post B A1 a) (vx_X px BX AX) free) (hS : va_S A0 H0 H locs) (hA : ∀ q, q < H.size → A1 q → A0 q) (hf : ∀ q, free q → A0 q) (hAX : ∀ q, q < H.size → AX q → A0 q)
    (kx : ∀ (E : String) (ce : Cell) (q9 : Addr) (u : SX) (t : State) (H1 : Heap) (locs1 : List Loc), t.heap = H1 → s.vm.Alike t.vm → px u → BX E u t → H.size ≤ H1.size → (∀ q : Nat, q < H.size → ¬ AX q → H1[q]? = H[q]?) → va_S A0 H0 H1 locs1 → H1[q9]? = some ce → ce.vm = .none → s.vm.findClass E = some ce.cls → vx_W p l e R s m args below meth c H1 locs1 (cells + mc) (slots + ms) Q (F0 m pc ls rest) q9)
    (kk : ∀ (r : Int32) (u : S) (t : State) (H1 : Heap) (locs1 : List Loc), t.heap = H1 → s.vm.Alike t.vm → post r u → B u t → H.size ≤ H1.size → (∀ q : Nat, q < H.size → ¬ A1 q → H1[q]? = H[q]?) → va_S A0 H0 H1 locs1 → W p l e R s m args below meth c H1 locs1 (cells + mc) (slots + ms) Q (F0 m (pc + 3) ls (.int r :: rest))) : W p l e R s m args below meth c H locs cells slots Q (F0 m pc ls st0) := by
  intro T hT X
  rcases hr T hT X with ⟨v, st₀, t, T', L, h0, X', hL, e1, e2, ⟨⟨r, u, hv, hp, hb⟩, hF⟩, st⟩ | ⟨q, st₀, t, T', L, E, ce, h0, X', hL, e1, e2, ⟨u, hp, hb, hF⟩, hce, hcv, hcl, st⟩
  · cases hv
    obtain ⟨k1, k2, k3⟩ := vx_keep h0 e1 hS hA hf hL hF
    obtain ⟨t2, a1, b1⟩ := kk r u t T'.heap (locs ++ L) e1.symm (by rw [← e2]; exact X'.warmed.alike) hp hb k1 k2 k3 T' rfl X'
    exact ⟨t2, st t2 a1, b1⟩
  · obtain ⟨k1, k2, k3⟩ := vx_keep h0 e1 hS hAX hf hL hF
    obtain ⟨t2, a1, b1⟩ := kx E ce q u t T'.heap (locs ++ L) e1.symm (by rw [← e2]; exact X'.warmed.alike) hp hb k1 k2 k3 (by rw [e1]; exact hce) hcv hcl T' rfl X'
    exact ⟨t2, st.trans a1, b1⟩
theorem vx_calll {S SX : Type} {post : Int64 → S → Prop} {px : SX → Prop} {B : S → State → Prop} {BX : String → SX → State → Prop} {AX : Nat → Prop} (hr : vx_Run p l e R s m args below meth c H locs cells slots mc ms (F0 m pc ls st0) rest (va_Ql post B A1 a) (vx_X px BX AX) free) (hS : va_S A0 H0 H locs) (hA : ∀ q, q < H.size → A1 q → A0 q) (hf : ∀ q, free q → A0 q) (hAX : ∀ q, q < H.size → AX q → A0 q)
    (kx : ∀ (E : String) (ce : Cell) (q9 : Addr) (u : SX) (t : State) (H1 : Heap) (locs1 : List Loc), t.heap = H1 → s.vm.Alike t.vm → px u → BX E u t → H.size ≤ H1.size → (∀ q : Nat, q < H.size → ¬ AX q → H1[q]? = H[q]?) → va_S A0 H0 H1 locs1 → H1[q9]? = some ce → ce.vm = .none → s.vm.findClass E = some ce.cls → vx_W p l e R s m args below meth c H1 locs1 (cells + mc) (slots + ms) Q (F0 m pc ls rest) q9)
    (kk : ∀ (r : Int64) (u : S) (t : State) (H1 : Heap) (locs1 : List Loc), t.heap = H1 → s.vm.Alike t.vm → post r u → B u t → H.size ≤ H1.size → (∀ q : Nat, q < H.size → ¬ A1 q → H1[q]? = H[q]?) → va_S A0 H0 H1 locs1 → W p l e R s m args below meth c H1 locs1 (cells + mc) (slots + ms) Q (F0 m (pc + 3) ls (.long r :: rest))) : W p l e R s m args below meth c H locs cells slots Q (F0 m pc ls st0) := by
  intro T hT X
  rcases hr T hT X with ⟨v, st₀, t, T', L, h0, X', hL, e1, e2, ⟨⟨r, u, hv, hp, hb⟩, hF⟩, st⟩ | ⟨q, st₀, t, T', L, E, ce, h0, X', hL, e1, e2, ⟨u, hp, hb, hF⟩, hce, hcv, hcl, st⟩
  · cases hv
    obtain ⟨k1, k2, k3⟩ := vx_keep h0 e1 hS hA hf hL hF
    obtain ⟨t2, a1, b1⟩ := kk r u t T'.heap (locs ++ L) e1.symm (by rw [← e2]; exact X'.warmed.alike) hp hb k1 k2 k3 T' rfl X'
    exact ⟨t2, st t2 a1, b1⟩
  · obtain ⟨k1, k2, k3⟩ := vx_keep h0 e1 hS hAX hf hL hF
    obtain ⟨t2, a1, b1⟩ := kx E ce q u t T'.heap (locs ++ L) e1.symm (by rw [← e2]; exact X'.warmed.alike) hp hb k1 k2 k3 (by rw [e1]; exact hce) hcv hcl T' rfl X'
    exact ⟨t2, st.trans a1, b1⟩
theorem vx_callf {S SX : Type} {post : UInt32 → S → Prop} {px : SX → Prop} {B : S → State → Prop} {BX : String → SX → State → Prop} {AX : Nat → Prop} (hr : vx_Run p l e R s m args below meth c H locs cells slots mc ms (F0 m pc ls st0) rest (va_Qf post B A1 a) (vx_X px BX AX) free) (hS : va_S A0 H0 H locs) (hA : ∀ q, q < H.size → A1 q → A0 q) (hf : ∀ q, free q → A0 q) (hAX : ∀ q, q < H.size → AX q → A0 q)
    (kx : ∀ (E : String) (ce : Cell) (q9 : Addr) (u : SX) (t : State) (H1 : Heap) (locs1 : List Loc), t.heap = H1 → s.vm.Alike t.vm → px u → BX E u t → H.size ≤ H1.size → (∀ q : Nat, q < H.size → ¬ AX q → H1[q]? = H[q]?) → va_S A0 H0 H1 locs1 → H1[q9]? = some ce → ce.vm = .none → s.vm.findClass E = some ce.cls → vx_W p l e R s m args below meth c H1 locs1 (cells + mc) (slots + ms) Q (F0 m pc ls rest) q9)
    (kk : ∀ (r : UInt32) (u : S) (t : State) (H1 : Heap) (locs1 : List Loc), t.heap = H1 → s.vm.Alike t.vm → post r u → B u t → H.size ≤ H1.size → (∀ q : Nat, q < H.size → ¬ A1 q → H1[q]? = H[q]?) → va_S A0 H0 H1 locs1 → W p l e R s m args below meth c H1 locs1 (cells + mc) (slots + ms) Q (F0 m (pc + 3) ls (.float r :: rest))) : W p l e R s m args below meth c H locs cells slots Q (F0 m pc ls st0) := by
  intro T hT X
  rcases hr T hT X with ⟨v, st₀, t, T', L, h0, X', hL, e1, e2, ⟨⟨r, u, hv, hp, hb⟩, hF⟩, st⟩ | ⟨q, st₀, t, T', L, E, ce, h0, X', hL, e1, e2, ⟨u, hp, hb, hF⟩, hce, hcv, hcl, st⟩
  · cases hv
    obtain ⟨k1, k2, k3⟩ := vx_keep h0 e1 hS hA hf hL hF
    obtain ⟨t2, a1, b1⟩ := kk r u t T'.heap (locs ++ L) e1.symm (by rw [← e2]; exact X'.warmed.alike) hp hb k1 k2 k3 T' rfl X'
    exact ⟨t2, st t2 a1, b1⟩
  · obtain ⟨k1, k2, k3⟩ := vx_keep h0 e1 hS hAX hf hL hF
    obtain ⟨t2, a1, b1⟩ := kx E ce q u t T'.heap (locs ++ L) e1.symm (by rw [← e2]; exact X'.warmed.alike) hp hb k1 k2 k3 (by rw [e1]; exact hce) hcv hcl T' rfl X'
    exact ⟨t2, st.trans a1, b1⟩
theorem vx_calld {S SX : Type} {post : UInt64 → S → Prop} {px : SX → Prop} {B : S → State → Prop} {BX : String → SX → State → Prop} {AX : Nat → Prop} (hr : vx_Run p l e R s m args below meth c H locs cells slots mc ms (F0 m pc ls st0) rest (va_Qd post B A1 a) (vx_X px BX AX) free) (hS : va_S A0 H0 H locs) (hA : ∀ q, q < H.size → A1 q → A0 q) (hf : ∀ q, free q → A0 q) (hAX : ∀ q, q < H.size → AX q → A0 q)
    (kx : ∀ (E : String) (ce : Cell) (q9 : Addr) (u : SX) (t : State) (H1 : Heap) (locs1 : List Loc), t.heap = H1 → s.vm.Alike t.vm → px u → BX E u t → H.size ≤ H1.size → (∀ q : Nat, q < H.size → ¬ AX q → H1[q]? = H[q]?) → va_S A0 H0 H1 locs1 → H1[q9]? = some ce → ce.vm = .none → s.vm.findClass E = some ce.cls → vx_W p l e R s m args below meth c H1 locs1 (cells + mc) (slots + ms) Q (F0 m pc ls rest) q9)
    (kk : ∀ (r : UInt64) (u : S) (t : State) (H1 : Heap) (locs1 : List Loc), t.heap = H1 → s.vm.Alike t.vm → post r u → B u t → H.size ≤ H1.size → (∀ q : Nat, q < H.size → ¬ A1 q → H1[q]? = H[q]?) → va_S A0 H0 H1 locs1 → W p l e R s m args below meth c H1 locs1 (cells + mc) (slots + ms) Q (F0 m (pc + 3) ls (.double r :: rest))) : W p l e R s m args below meth c H locs cells slots Q (F0 m pc ls st0) := by
  intro T hT X
  rcases hr T hT X with ⟨v, st₀, t, T', L, h0, X', hL, e1, e2, ⟨⟨r, u, hv, hp, hb⟩, hF⟩, st⟩ | ⟨q, st₀, t, T', L, E, ce, h0, X', hL, e1, e2, ⟨u, hp, hb, hF⟩, hce, hcv, hcl, st⟩
  · cases hv
    obtain ⟨k1, k2, k3⟩ := vx_keep h0 e1 hS hA hf hL hF
    obtain ⟨t2, a1, b1⟩ := kk r u t T'.heap (locs ++ L) e1.symm (by rw [← e2]; exact X'.warmed.alike) hp hb k1 k2 k3 T' rfl X'
    exact ⟨t2, st t2 a1, b1⟩
  · obtain ⟨k1, k2, k3⟩ := vx_keep h0 e1 hS hAX hf hL hF
    obtain ⟨t2, a1, b1⟩ := kx E ce q u t T'.heap (locs ++ L) e1.symm (by rw [← e2]; exact X'.warmed.alike) hp hb k1 k2 k3 (by rw [e1]; exact hce) hcv hcl T' rfl X'
    exact ⟨t2, st.trans a1, b1⟩
theorem vx_callv {S SX : Type} {post : S → Prop} {px : SX → Prop} {B : S → State → Prop} {BX : String → SX → State → Prop} {AX : Nat → Prop} (hr : vx_Run p l e R s m args below meth c H locs cells slots mc ms (F0 m pc ls st0) rest (va_Qv post B A1 a) (vx_X px BX AX) free) (hS : va_S A0 H0 H locs) (hA : ∀ q, q < H.size → A1 q → A0 q) (hf : ∀ q, free q → A0 q) (hAX : ∀ q, q < H.size → AX q → A0 q)
    (kx : ∀ (E : String) (ce : Cell) (q9 : Addr) (u : SX) (t : State) (H1 : Heap) (locs1 : List Loc), t.heap = H1 → s.vm.Alike t.vm → px u → BX E u t → H.size ≤ H1.size → (∀ q : Nat, q < H.size → ¬ AX q → H1[q]? = H[q]?) → va_S A0 H0 H1 locs1 → H1[q9]? = some ce → ce.vm = .none → s.vm.findClass E = some ce.cls → vx_W p l e R s m args below meth c H1 locs1 (cells + mc) (slots + ms) Q (F0 m pc ls rest) q9)
    (kk : ∀ (u : S) (t : State) (H1 : Heap) (locs1 : List Loc), t.heap = H1 → s.vm.Alike t.vm → post u → B u t → H.size ≤ H1.size → (∀ q : Nat, q < H.size → ¬ A1 q → H1[q]? = H[q]?) → va_S A0 H0 H1 locs1 → W p l e R s m args below meth c H1 locs1 (cells + mc) (slots + ms) Q (F0 m (pc + 3) ls (rest))) : W p l e R s m args below meth c H locs cells slots Q (F0 m pc ls st0) := by
  intro T hT X
  rcases hr T hT X with ⟨v, st₀, t, T', L, h0, X', hL, e1, e2, ⟨⟨u, hv, hp, hb⟩, hF⟩, st⟩ | ⟨q, st₀, t, T', L, E, ce, h0, X', hL, e1, e2, ⟨u, hp, hb, hF⟩, hce, hcv, hcl, st⟩
  · cases hv
    obtain ⟨k1, k2, k3⟩ := vx_keep h0 e1 hS hA hf hL hF
    obtain ⟨t2, a1, b1⟩ := kk u t T'.heap (locs ++ L) e1.symm (by rw [← e2]; exact X'.warmed.alike) hp hb k1 k2 k3 T' rfl X'
    exact ⟨t2, st t2 a1, b1⟩
  · obtain ⟨k1, k2, k3⟩ := vx_keep h0 e1 hS hAX hf hL hF
    obtain ⟨t2, a1, b1⟩ := kx E ce q u t T'.heap (locs ++ L) e1.symm (by rw [← e2]; exact X'.warmed.alike) hp hb k1 k2 k3 (by rw [e1]; exact hce) hcv hcl T' rfl X'
    exact ⟨t2, st.trans a1, b1⟩
/-- caught by the row x of this method's table; the rows ahead don't take it -/
theorem vx_catch {own name : String} {E : String} {ce : Cell} {q : Addr} (hown : s.vm.findClass own = some m.cls) (pre : List ExceptionTableEntry) (x : ExceptionTableEntry) (suf : List ExceptionTableEntry) (hsplit : c.exceptionTable.toList = pre ++ x :: suf)
    (hpass : ∀ z ∈ pre, covers z pc = false ∨ (z.catchType ≠ 0 ∧ ∃ nm : String, (Cond.classLink own z.catchType nm).before args s = true ∧ va_Nc E nm s)) (hx : covers x pc = true) (h0 : x.catchType ≠ 0)
    (hlink : (Cond.classLink own x.catchType name).before args s = true) (hcast : (Cond.castable E name).before args s = true) (hcell : H[q]? = some ce) (hv : ce.vm = .none) (hcl : s.vm.findClass E = some ce.cls)
    (kk : W p l e R s m args below meth c H locs cells slots Q (F0 m x.handlerPc ls [.ref q])) : vx_W p l e R s m args below meth c H locs cells slots Q (F0 m pc ls rest) q := by
  intro T hT X
  have hpl : e.platform.magicAccessors = ({} : Platform).magicAccessors := by rw [X.admits.platform]
  obtain ⟨c3, c4, hc3, hc4, hasg⟩ := Cond.castable_spec hcast
  cases Option.some.inj (hc3.symm.trans hcl)
  obtain ⟨c5, hc5, hcl5⟩ := Cond.classLink_spec hown hlink e.platform hpl
  cases Option.some.inj (hc4.symm.trans hc5)
  obtain ⟨vm', X', st⟩ := dk_caught X q (g := F0 m pc ls rest) rfl (by rw [hT]; exact hcell) (by rw [hv]; rfl) (by obtain ⟨k9, h9, -⟩ := Vm.findClass_spec hcl; exact ⟨k9, h9⟩) pre x suf hsplit
    (fun z hz => by
      rcases hpass z hz with h | ⟨hz0, nm, hl1, hn1⟩
      · exact Or.inl h
      · obtain ⟨c6, hc6, hcl6⟩ := Cond.classLink_spec hown hl1 e.platform hpl
        obtain ⟨a8, b8, h1, h2, h3⟩ := hn1
        cases Option.some.inj (h1.symm.trans hcl)
        cases Option.some.inj (h2.symm.trans hc6)
        exact Or.inr ⟨hz0, _, hcl6, h3⟩) hx h0 hcl5 hasg
  obtain ⟨t, a1, b1⟩ := kk (T.setVm vm') hT X'
  exact ⟨t, st.trans a1, b1⟩
end Rows
section Ends
variable {p : Program} {l : Launch} {e : Env} {R : Room} {s : State} {m : MethodId} {args : Array Value} {below : List Frame} {meth : Method} {c : Code} {H : Heap} {locs : List Loc} {cells slots : Nat} {Q : State → Prop}
variable {mc ms : Nat} {free : Addr → Prop} {A0 A1 : Nat → Prop} {H0 : Heap} {a : Array Value} {ls : Array Slot} {st0 rest : List Value}
variable {Qc : Array Value → State → Outcome → State → Prop} {XC : String → State → State → Prop}
/-- what a body that may throw owes at its end -/
def vx_MQ (below : List Frame) (Qc : Array Value → State → Outcome → State → Prop) (XC : String → State → State → Prop) (a : Array Value) (s : State) (mc ms : Nat) (free : Addr → Prop) : State → Prop := fun t =>
  ∃ o, t.status = .running ∧ Ended t below o ∧ vx_Q Qc XC mc ms free a s o t
theorem vx_ret {g : JFrame} {mc ms : Nat} (k : W p l e R s m args below meth c H locs cells slots (MQ below Qc args s mc ms free) g) : W p l e R s m args below meth c H locs cells slots (vx_MQ below Qc XC args s mc ms free) g := by
  intro T hT X
  obtain ⟨t, a1, o, b1, b2, b3, b4⟩ := k T hT X
  exact ⟨t, a1, o, b1, b2, Or.inl ⟨b3, b4⟩⟩
/-- not caught here: it goes on to the caller -/
theorem vx_widen {g : JFrame} {q : Addr} {k n : Nat} (h1 : cells ≤ k) (h2 : slots ≤ n) (kk : vx_W p l e R s m args below meth c H locs k n Q g q) : vx_W p l e R s m args below meth c H locs cells slots Q g q := fun T hT X => kk T hT (stand_widen X h1 h2)
theorem vx_out {pc : Nat} {E : String} {ce : Cell} {q : Addr} {mc ms : Nat} (hout : ∀ x ∈ c.exceptionTable.toList, covers x pc = false) (hlocks : meth.locks = false) (hcell : H[q]? = some ce) (hv : ce.vm = .none) (hcl : s.vm.findClass E = some ce.cls)
    (hx : ∀ t : State, t.heap = H → s.vm.Alike t.vm → XC E s t) (hf : ∀ z ∈ locs, free z.base) (hc : cells ≤ mc) (hs : slots ≤ ms) :
    vx_W p l e R s m args below meth c H locs cells slots (vx_MQ below Qc XC args s mc ms free) (F0 m pc ls rest) q := by
  intro T hT X
  obtain ⟨st1, hrun, hend, hW, hsm⟩ := X.leaveThrown q (g := F0 m pc ls rest) rfl rfl rfl hout hlocks
  have hcell9 : (T.setFrames (.throwing q :: below)).heap[q]? = some ce := by
    show T.heap[q]? = some ce
    rw [hT]; exact hcell
  exact ⟨_, st1, .threw q, hrun, hend, Or.inr ⟨q, rfl, E, ce, locs, hx _ hT hW.alike, hcell9, hv, hcl, hW, hsm.mono hc hs, hf⟩⟩
theorem vx_frame {U : State} {k n : Nat} (h : s.sameButNew ({ U with vm := s.vm } : State) locs k n) : s.heap.size ≤ U.heap.size ∧ ∀ q : Nat, q < s.heap.size → (∀ z ∈ locs, z.base ≠ q) → U.heap[q]? = s.heap[q]? := by
  obtain ⟨-, h2, -, -, -, h6⟩ := h
  refine ⟨h2, fun q hq hz => ?_⟩
  obtain ⟨c9, e1, e2, e3, e4⟩ := h6 q _ (Array.getElem?_eq_getElem hq)
  have hs : c9.slots = (s.heap[q]).slots := Array.ext_getElem? fun i => e4 i fun hm => hz _ hm rfl
  have h9 : c9 = s.heap[q] := by
    rw [hs] at e2
    exact e2
  have e5 : U.heap[q]? = some c9 := e1
  rw [e5, h9, Array.getElem?_eq_getElem hq]
/-- the words of a throw but the four that speak of the heap -/
def vx_no (w : Cond) : Bool := decide (w ≠ .isRef (.static Bundle.tN "UNASSIGNED_STACK" Bundle.steD)) && decide (w ≠ .isRef (.static Bundle.tN "SUPPRESSED_SENTINEL" Bundle.listD)) && decide (w ≠ .laysStatic Bundle.tN "UNASSIGNED_STACK" Bundle.steD) && decide (w ≠ .laysStatic Bundle.tN "SUPPRESSED_SENTINEL" Bundle.listD)
def vx_at0 (own : String) (ic : Nat) (X : String) (names : List String) : List Cond := (Bundle.ownAtoms0 own ic X names).filter vx_no
def vx_atS (own : String) (ic : Nat) (X : String) (names : List String) : List Cond := (Bundle.ownAtoms own ic X names).filter vx_no
def dk_atX (own : String) (ic : Nat) (X : String) (names : List String) : List Cond := (dk_ownX own ic X names).filter vx_no
/-- a word that the tables alone decide, or a good one -/
def vx_ot (w : Cond) : Bool := w.onTables || goodWord w
theorem vx_ot_at {args a' : Array Value} {s U : State} {w : Cond} (hW : s.WarmedH U.vm) (hvm : s.vm = U.vm) (hg : vx_ot w = true) (h : w.before args s = true) : w.before a' U = true := by
  simp only [vx_ot, Bool.or_eq_true] at hg
  rcases hg with hg | hg
  · exact va_tabs hg hvm h
  · exact word_at hW (good_of_word hg) h
/-- a list's words: the good ones out of the method's own list, the others by premises of their own -/
theorem vx_hat {args : Array Value} {s : State} {L B : List Cond} (h1 : ∀ w ∈ L.filter goodWord, w.before args s = true) (h2 : ∀ w ∈ L.filter (fun w => !goodWord w), w ∈ B) (h3 : ∀ w ∈ B, w.before args s = true) : ∀ w ∈ L, w.before args s = true := by
  intro w hw
  by_cases g : goodWord w = true
  · exact h1 w (List.mem_filter.mpr ⟨hw, g⟩)
  · refine h3 w (h2 w (List.mem_filter.mpr ⟨hw, ?_⟩))
    show (!goodWord w) = true
    cases hgw : goodWord w
    · rfl
    · exact absurd hgw g
theorem vx_c {args : Array Value} {s : State} {w : Cond} {B : List Cond} (h : w.before args s = true) (t : ∀ w ∈ B, w.before args s = true) : ∀ w' ∈ w :: B, w'.before args s = true := fun w' h' => (List.mem_cons.mp h').elim (fun e => by rw [e]; exact h) (t w')
theorem vx_n {args : Array Value} {s : State} : ∀ w ∈ ([] : List Cond), w.before args s = true := fun _ h => nomatch h
theorem vx_own {args : Array Value} {s : State} {L : List Cond} (h1 : ∀ w ∈ L.filter vx_no, w.before args s = true)
    (hU : (Cond.isRef (.static Bundle.tN "UNASSIGNED_STACK" Bundle.steD)).before args s = true) (hN : (Cond.isRef (.static Bundle.tN "SUPPRESSED_SENTINEL" Bundle.listD)).before args s = true)
    (lU : (Cond.laysStatic Bundle.tN "UNASSIGNED_STACK" Bundle.steD).before args s = true) (lN : (Cond.laysStatic Bundle.tN "SUPPRESSED_SENTINEL" Bundle.listD).before args s = true) : ∀ w ∈ L, w.before args s = true := by
  intro w hw
  by_cases e1 : w = .isRef (.static Bundle.tN "UNASSIGNED_STACK" Bundle.steD)
  · rw [e1]; exact hU
  · by_cases e2 : w = .isRef (.static Bundle.tN "SUPPRESSED_SENTINEL" Bundle.listD)
    · rw [e2]; exact hN
    · by_cases e3 : w = .laysStatic Bundle.tN "UNASSIGNED_STACK" Bundle.steD
      · rw [e3]; exact lU
      · by_cases e4 : w = .laysStatic Bundle.tN "SUPPRESSED_SENTINEL" Bundle.listD
        · rw [e4]; exact lN
        · exact h1 w (List.mem_filter.mpr ⟨hw, by unfold vx_no; rw [decide_eq_true e1, decide_eq_true e2, decide_eq_true e3, decide_eq_true e4]; rfl⟩)
/-- where a static field lies, its class's statics cell in H -/
def vx_L (C n d : String) (A : Nat → Prop) (U : State) (H : Heap) : Prop := ∃ (c : ClassId) (k : Class) (i : Nat) (f : Field) (a : Nat) (cell : Cell), U.vm.findClass C = some c ∧ U.fieldFound? C n d = some (c, k, i, f) ∧ f.isStatic = true ∧ k.statics = some a ∧ H[a]? = some cell ∧ cell.vm.isStatics = true ∧ cell.cls = c ∧ f.slot < cell.slots.size ∧ k.staticTypes[f.slot]? = some f.type ∧ ¬ A a
theorem vx_L.moved {C n d : String} {A : Nat → Prop} {u U : State} {H : Heap} (hvm : u.vm.Alike U.vm) (h : vx_L C n d A u H) : vx_L C n d A U H := by
  obtain ⟨c, k, i, f, a, cell, h1, h2, h3, h4, h5, h6, h7, h8, h9, h10⟩ := h
  obtain ⟨k', hi', he⟩ := State.fieldFound?_setVm hvm h2
  exact ⟨c, k', i, f, a, cell, by rw [hvm.findClass]; exact h1, hi', h3, by rw [he]; exact h4, h5, h6, h7, h8, by rw [he]; exact h9, h10⟩
theorem vx_L.kept {C n d : String} {A : Nat → Prop} {U : State} {H H1 : Heap} (h : vx_L C n d A U H) (hq : ∀ a : Nat, a < H.size → ¬ A a → H1[a]? = H[a]?) : vx_L C n d A U H1 := by
  obtain ⟨c, k, i, f, a, cell, h1, h2, h3, h4, h5, h6, h7, h8, h9, h10⟩ := h
  exact ⟨c, k, i, f, a, cell, h1, h2, h3, h4, by rw [hq a (Array.getElem?_eq_some_iff.mp h5).1 h10]; exact h5, h6, h7, h8, h9, h10⟩
theorem vx_L.narrow {C n d : String} {A B : Nat → Prop} {U : State} {H : Heap} (h : vx_L C n d A U H) (hAB : ∀ q, B q → A q) : vx_L C n d B U H := by
  obtain ⟨c, k, i, f, a, cell, h1, h2, h3, h4, h5, h6, h7, h8, h9, h10⟩ := h
  exact ⟨c, k, i, f, a, cell, h1, h2, h3, h4, h5, h6, h7, h8, h9, fun z => h10 (hAB _ z)⟩
theorem vx_L.word {C n d : String} {A : Nat → Prop} {s : State} {args : Array Value} (h : vx_L C n d A s s.heap) : (Cond.laysStatic C n d).before args s = true := by
  obtain ⟨c, k, i, f, a, cell, h1, h2, h3, h4, h5, h6, h7, h8, h9, -⟩ := h
  show (Cond.laysStatic C n d).holds args s none s [] = true
  exact Cond.laysStatic_of h1 h2 h3 h4 h5 h6 h7 h8 h9
/-- .. and what it holds: null or some reference -/
def vx_Zq (C n d : String) (A : Nat → Prop) (U : State) (H : Heap) : Prop := va_Zq C n d A U H ∧ vx_L C n d A U H
theorem vx_Zq.moved {C n d : String} {A : Nat → Prop} {u U : State} {H : Heap} (hvm : u.vm.Alike U.vm) (h : vx_Zq C n d A u H) : vx_Zq C n d A U H := ⟨va_Zq.moved hvm h.1, vx_L.moved hvm h.2⟩
theorem vx_Zq.kept {C n d : String} {A : Nat → Prop} {U : State} {H H1 : Heap} (h : vx_Zq C n d A U H) (hq : ∀ a : Nat, a < H.size → ¬ A a → H1[a]? = H[a]?) : vx_Zq C n d A U H1 := ⟨va_Zq.kept h.1 hq, vx_L.kept h.2 hq⟩
theorem vx_Zq.narrow {C n d : String} {A B : Nat → Prop} {U : State} {H : Heap} (h : vx_Zq C n d A U H) (hAB : ∀ q, B q → A q) : vx_Zq C n d B U H := ⟨va_Zq.narrow h.1 hAB, vx_L.narrow h.2 hAB⟩
theorem vx_Zqof {args : Array Value} {s : State} {C n d : String} {A : Nat → Prop} (hl : (Cond.laysStatic C n d).before args s = true) (hini : (Cond.initialized C).before args s = true) (h : (Cond.isRef (.static C n d)).before args s = true) (hA : ∀ a : Nat, a < s.heap.size → ¬ A a) : vx_Zq C n d A s s.heap := by
  refine ⟨va_Zqof hl hini h hA, ?_⟩
  obtain ⟨c, k, i, f, a, cell, h1, h2, h3, h4, h5, h6, h7, h8, h9⟩ := Cond.laysStatic_spec hl
  exact ⟨c, k, i, f, a, cell, h1, h2, h3, h4, h5, h6, h7, h8, h9, hA a (Array.getElem?_eq_some_iff.mp h5).1⟩
theorem vx_isRef {C n d : String} {v : Value} {A : Nat → Prop} {s : State} {args : Array Value} (h : va_Z C n d v A s s.heap) (hv : v.isRef = true) : (Cond.isRef (.static C n d)).before args s = true := by
  obtain ⟨cf, kf, fi, f, a, cell, h1, h2, h3, h4, h5, h6, h7, -⟩ := h
  have he : (Term.static C n d).eval args s none [] s = some v := by
    simp [Term.eval, State.fieldNamed?, h1, h2, h4, h5, h6, h7]
  simp only [Cond.before, Cond.holds, Cond.value, he]
  cases v <;> simp_all [Value.isRef]
theorem vx_isRefq {C n d : String} {A : Nat → Prop} {s : State} {args : Array Value} (h : va_Zq C n d A s s.heap) : (Cond.isRef (.static C n d)).before args s = true := by
  rcases h with h | ⟨t, h⟩
  · exact vx_isRef h rfl
  · exact vx_isRef h rfl
/-- the same frame, seen from here: as if the method were called anew in this heap -/
theorem vx_rebase {T : State} (X : Stand p l e R s m args below meth c T locs cells slots) {R' : Room} (hf : R'.frames ≤ R.frames) (hl : R'.locals ≤ R.locals) (hc : cells + R'.cells ≤ R.cells) (hs : slots + R'.slots ≤ R.slots) :
    Stand p l e R' ((T.setVm s.vm).setFrames (.invoking m args :: below)) m args below meth c T [] 0 0 := by
  have htop : (T.setVm s.vm).topJava?.isSome := X.here.top
  have hF : ((T.setVm s.vm).setFrames (.invoking m args :: below)).frames = .invoking m args :: below := State.frames_setFrames _ (State.cur_lt_of_top htop)
  obtain ⟨g₀, hg0⟩ := Option.isSome_iff_exists.mp htop
  obtain ⟨r, hr⟩ := State.topJava?_eq_some.mp hg0
  have hl9 : e.platform.stackLimits (T.setVm s.vm).me = e.platform.stackLimits s.me := X.limits
  have hb9 : (T.setVm s.vm).me.stackBytes = s.me.stackBytes := X.bytes
  refine ⟨X.admits, X.cas, X.clock, hF, ?_, X.hears, X.method, X.code, X.here, X.tail, X.warmed, ?_, ?_, ?_⟩
  · have h := X.room
    have hU : ((T.setVm s.vm).setFrames (.invoking m args :: below)).localsInUse = s.localsInUse := by
      rw [State.localsInUse_invoking hF (meth := meth) (c := c) X.method X.code, State.localsInUse_invoking X.frames X.method X.code]
    simp only [State.hasRoom, Bool.and_eq_true, decide_eq_true_eq] at h ⊢
    obtain ⟨⟨⟨⟨h1, h2, h3, h4, h5, h6⟩, h7⟩, h8⟩, h9⟩ := h
    rw [X.frames, List.length_cons] at h2 h3
    have q1 := X.heapSize
    have q2 := X.used
    simp only [hF, hU, List.length_cons, State.stackLimits_setFrames, State.stackBytes_setFrames, hl9, hb9]
    refine ⟨⟨⟨⟨by omega, by omega, by omega, by omega, by omega, h6⟩, ?_⟩, ?_⟩, X.book⟩
    · show T.heap.size + R'.cells ≤ e.platform.maxCells
      omega
    · show T.slotsUsed + R'.slots ≤ e.platform.maxSlots
      omega
  · rw [State.stackLimits_setFrames]; rfl
  · rw [State.stackBytes_setFrames]; rfl
  · refine ⟨?_, Nat.le_refl _, Nat.le_refl _, ?_, ?_, fun a c9 h9 => ⟨c9, h9, rfl, rfl, fun _ _ => rfl⟩⟩
    · obtain ⟨t, ht, -⟩ := State.frames_cons hr
      show T.setVm s.vm = { ((T.setVm s.vm).setFrames (.invoking m args :: below)).setFrames (T.setVm s.vm).frames with heap := T.heap, slotsUsed := T.slotsUsed }
      rw [State.setFrames_setFrames, State.setFrames_self ht]
      rfl
    · show T.slotsUsed = T.slotsUsed + ((T.heap.toList.drop T.heap.size).map (·.slots.size)).sum
      rw [List.drop_eq_nil_of_le (Nat.le_of_eq Array.length_toList)]
      rfl
    · show ((T.heap.toList.drop T.heap.size).map (·.slots.size)).sum ≤ 0
      rw [List.drop_eq_nil_of_le (Nat.le_of_eq Array.length_toList)]
      exact Nat.le_refl _
/-- 'throw new E()': new; dup; invokespecial; athrow -/
theorem vx_throw0 {cc : ByteArray} {pc : Nat} (hexec : p.tables.exec = Jvm.exec) (hb : c.code = cc) (hl : l.stackTraces = false) {own cls : String} {names : List String} {ik ic mc ms : Nat} {A : Nat → Prop}
    (hown : s.vm.findClass own = some m.cls) (hcls : Bundle.fit cls = true) (hnames : ∀ n ∈ names, Bundle.fit n = true)
    (hk : (Cond.classLink own ik cls).before args s = true) (hini : (Cond.initialized cls).before args s = true) (hat : ∀ w ∈ vx_at0 own ic cls names, w.before args s = true)
    (hgood : ∀ w ∈ Cond.classLink own ik cls :: Cond.initialized cls :: vx_at0 own ic cls names, vx_ot w = true)
    (hU : vx_Zq Bundle.tN "UNASSIGNED_STACK" Bundle.steD A s s.heap) (hN : vx_Zq Bundle.tN "SUPPRESSED_SENTINEL" Bundle.listD A s s.heap) (hS : va_S A s.heap H locs) (hsize : ls.size = c.maxLocals)
    (d0 : decode cc pc = .ok (.new ik, 3)) (d3 : decode cc (pc + 3) = .ok (.dup, 1)) (d4 : decode cc (pc + 4) = .ok (.invokespecial ic, 3)) (d7 : decode cc (pc + 7) = .ok (.athrow, 1))
    (hout : ∀ x ∈ c.exceptionTable.toList, covers x (pc + 7) = false)
    (hRframes : names.length + 3 < R.frames) (hRlocals : (rest.map fun v => v.category).sum + (13 * (names.length + 1) + 42) ≤ R.locals) (hRcells : cells + 1 ≤ R.cells) (hRslots : slots + 6 ≤ R.slots) (hlocks : meth.locks = false)
    (hx : ∀ t : State, s.vm.Alike t.vm → H.size ≤ t.heap.size → (∀ q : Nat, q < H.size → t.heap[q]? = H[q]?) → XC cls s t)
    (hf : ∀ z ∈ locs, free z.base) (hc : cells + 1 ≤ mc) (hs : slots + 6 ≤ ms) :
    W p l e R s m args below meth c H locs cells slots (vx_MQ below Qc XC args s mc ms free) (F0 m pc ls rest) := by
  intro T hT X
  have htr : e.platform.stackTraces = false := (show e.platform.stackTraces = l.stackTraces by rw [X.admits.platform]).trans hl
  have Y := vx_rebase X (R' := { frames := R.frames, locals := R.locals, cells := 1, slots := 6 }) (Nat.le_refl _) (Nat.le_refl _) hRcells hRslots
  obtain ⟨s', hA⟩ : ∃ z, z = (T.setVm s.vm).setFrames (.invoking m args :: below) := ⟨_, rfl⟩
  rw [← hA] at Y
  have hvm : s'.vm = s.vm := by rw [hA]; rfl
  have hhp : s'.heap = H := by rw [hA]; exact hT
  have hW0 : s.WarmedH s'.vm := by rw [hvm]; exact State.WarmedH.refl s
  have hat' : ∀ w ∈ vx_at0 own ic cls names, w.before args s' = true := fun w hw => vx_ot_at hW0 hvm.symm (hgood w (List.mem_cons_of_mem _ (List.mem_cons_of_mem _ hw))) (hat w hw)
  have hk' : (Cond.classLink own ik cls).before args s' = true := vx_ot_at hW0 hvm.symm (hgood _ List.mem_cons_self) hk
  have hini' : (Cond.initialized cls).before args s' = true := vx_ot_at hW0 hvm.symm (hgood _ (List.mem_cons_of_mem _ List.mem_cons_self)) hini
  have hU' : vx_Zq Bundle.tN "UNASSIGNED_STACK" Bundle.steD A s' s'.heap := by rw [hhp]; exact vx_Zq.moved hW0.alike (hU.kept hS.2.1)
  have hN' : vx_Zq Bundle.tN "SUPPRESSED_SENTINEL" Bundle.listD A s' s'.heap := by rw [hhp]; exact vx_Zq.moved hW0.alike (hN.kept hS.2.1)
  have h : ∀ w ∈ Bundle.ownAtoms0 own ic cls names, w.before args s' = true := vx_own hat' (vx_isRefq hU'.1) (vx_isRefq hN'.1) hU'.2.word hN'.2.word
  have hown' : s'.vm.findClass own = some m.cls := by rw [hvm]; exact hown
  have hins : (Cond.instantiable cls 6).before args s' = true := h _ (by simp [Bundle.ownAtoms0])
  obtain ⟨vm₁, cX, kX, hfX, hkX, -, -, X₁, st1⟩ := Y.newCold hexec (own := own) (C := cls) (index := ik) (n := 6) hown' hk' hins hini'
    (g := F0 m pc ls rest) rfl (by rw [hb]; exact d0) (Nat.le_refl _) (Nat.le_refl _)
  generalize hT1 : (T.setVm vm₁).pushCell { cls := cX, slots := kX.instanceTypes.map defaultValue, vm := .none } = T1 at X₁ st1
  have hcat : (Value.ref T.heap.size).category = 1 := rfl
  have hcellA : T1.heap[T.heap.size]? = some (freshCell cX kX) := by rw [← hT1]; exact State.heap_pushCell_size _ _
  have d3' : decode c.code (pc + 3) = .ok (.dup, 1) := by rw [hb]; exact d3
  obtain ⟨U, hsteps, hrun, hend, hW, hsame, ce, hce, hO⟩ := X₁.ctorThrow0 hexec htr (own := own) (cls := cls) (names := names) (ic := ic) hown' hcls hnames h (fun x hx => nomatch hx) hfX hkX hcellA (by rw [hhp, hT]; exact Nat.le_refl _)
    (g := { method := m, pc := pc + 4, locals := ls, stack := .ref T.heap.size :: .ref T.heap.size :: rest, locked := none }) rfl hsize rfl rfl (rest := rest) rfl
    (by rw [hb]; exact d4) (by rw [hb]; exact d7) hout hRframes (by simp only [List.map_cons, List.sum_cons, hcat]; omega) hlocks
  obtain ⟨f1, f2⟩ := vx_frame hsame
  rw [hhp] at f1 f2
  have hWs : s.WarmedH U.vm := State.WarmedH.trans hW0 hW
  have hcl : s.vm.findClass cls = some ce.cls := by
    have h9 := hO.cls
    rw [hvm] at h9
    exact h9
  have hall : s.sameButNew ({ U with vm := s.vm } : State) locs mc ms := by
    subst hA
    obtain ⟨e1, e2⟩ := hsame
    rw [State.setFrames_setFrames] at e1
    have h2 : (T.setVm s.vm).sameButNew ({ U with vm := s.vm } : State) [] (0 + 1) (0 + 6) := ⟨e1, e2⟩
    have h3 := X.same.trans h2
    rw [List.append_nil] at h3
    exact h3.mono hc hs
  refine ⟨U, ?_, .threw T.heap.size, hrun, hend, Or.inr ⟨T.heap.size, rfl, cls, ce, locs, hx U hWs.alike f1 (fun q hq => f2 q hq (fun z hz => nomatch hz)), hce, hO.vm, hcl, hWs, hall, hf⟩⟩
  refine st1 _ ?_
  show Steps p.tables e below (T1.setTop { method := m, pc := pc + 3, locals := ls, stack := .ref T.heap.size :: rest, locked := none }) _
  jvm_step X₁.here [X₁.here.top, hexec, d3', Value.category]
  exact hsteps
/-- 'throw new E("text")': new; dup; ldc; invokespecial; athrow -/
theorem vx_throwS {cc : ByteArray} {pc : Nat} (hexec : p.tables.exec = Jvm.exec) (hb : c.code = cc) (hl : l.stackTraces = false) {own cls text : String} {names : List String} {ik is ic mc ms sa : Nat} {A : Nat → Prop}
    (hown : s.vm.findClass own = some m.cls) (hcls : Bundle.fit cls = true) (hnames : ∀ n ∈ names, Bundle.fit n = true)
    (hk : (Cond.classLink own ik cls).before args s = true) (hini : (Cond.initialized cls).before args s = true) (hstr : vk_R own is text sa s) (hat : ∀ w ∈ vx_atS own ic cls names, w.before args s = true)
    (hgood : ∀ w ∈ Cond.classLink own ik cls :: Cond.initialized cls :: vx_atS own ic cls names, vx_ot w = true)
    (hU : vx_Zq Bundle.tN "UNASSIGNED_STACK" Bundle.steD A s s.heap) (hN : vx_Zq Bundle.tN "SUPPRESSED_SENTINEL" Bundle.listD A s s.heap) (hS : va_S A s.heap H locs) (hsize : ls.size = c.maxLocals)
    (d0 : decode cc pc = .ok (.new ik, 3)) (d3 : decode cc (pc + 3) = .ok (.dup, 1)) (d4 : decode cc (pc + 4) = .ok (.ldc is, 2)) (d6 : decode cc (pc + 6) = .ok (.invokespecial ic, 3)) (d9 : decode cc (pc + 9) = .ok (.athrow, 1))
    (hout : ∀ x ∈ c.exceptionTable.toList, covers x (pc + 9) = false)
    (hRframes : names.length + 3 < R.frames) (hRlocals : (rest.map fun v => v.category).sum + (13 * (names.length + 1) + 43) ≤ R.locals) (hRcells : cells + 1 ≤ R.cells) (hRslots : slots + 6 ≤ R.slots) (hlocks : meth.locks = false)
    (hx : ∀ t : State, s.vm.Alike t.vm → H.size ≤ t.heap.size → (∀ q : Nat, q < H.size → t.heap[q]? = H[q]?) → XC cls s t)
    (hf : ∀ z ∈ locs, free z.base) (hc : cells + 1 ≤ mc) (hs : slots + 6 ≤ ms) :
    W p l e R s m args below meth c H locs cells slots (vx_MQ below Qc XC args s mc ms free) (F0 m pc ls rest) := by
  intro T hT X
  have htr : e.platform.stackTraces = false := (show e.platform.stackTraces = l.stackTraces by rw [X.admits.platform]).trans hl
  have Y := vx_rebase X (R' := { frames := R.frames, locals := R.locals, cells := 1, slots := 6 }) (Nat.le_refl _) (Nat.le_refl _) hRcells hRslots
  obtain ⟨s', hA⟩ : ∃ z, z = (T.setVm s.vm).setFrames (.invoking m args :: below) := ⟨_, rfl⟩
  rw [← hA] at Y
  have hvm : s'.vm = s.vm := by rw [hA]; rfl
  have hhp : s'.heap = H := by rw [hA]; exact hT
  have hW0 : s.WarmedH s'.vm := by rw [hvm]; exact State.WarmedH.refl s
  have hat' : ∀ w ∈ vx_atS own ic cls names, w.before args s' = true := fun w hw => vx_ot_at hW0 hvm.symm (hgood w (List.mem_cons_of_mem _ (List.mem_cons_of_mem _ hw))) (hat w hw)
  have hk' : (Cond.classLink own ik cls).before args s' = true := vx_ot_at hW0 hvm.symm (hgood _ List.mem_cons_self) hk
  have hini' : (Cond.initialized cls).before args s' = true := vx_ot_at hW0 hvm.symm (hgood _ (List.mem_cons_of_mem _ List.mem_cons_self)) hini
  have hU' : vx_Zq Bundle.tN "UNASSIGNED_STACK" Bundle.steD A s' s'.heap := by rw [hhp]; exact vx_Zq.moved hW0.alike (hU.kept hS.2.1)
  have hN' : vx_Zq Bundle.tN "SUPPRESSED_SENTINEL" Bundle.listD A s' s'.heap := by rw [hhp]; exact vx_Zq.moved hW0.alike (hN.kept hS.2.1)
  have h : ∀ w ∈ Bundle.ownAtoms own ic cls names, w.before args s' = true := vx_own hat' (vx_isRefq hU'.1) (vx_isRefq hN'.1) hU'.2.word hN'.2.word
  have hown' : s'.vm.findClass own = some m.cls := by rw [hvm]; exact hown
  have hins : (Cond.instantiable cls 6).before args s' = true := h _ (by simp [Bundle.ownAtoms])
  obtain ⟨vm₁, cX, kX, hfX, hkX, -, -, X₁, st1⟩ := Y.newCold hexec (own := own) (C := cls) (index := ik) (n := 6) hown' hk' hins hini'
    (g := F0 m pc ls rest) rfl (by rw [hb]; exact d0) (Nat.le_refl _) (Nat.le_refl _)
  generalize hT1 : (T.setVm vm₁).pushCell { cls := cX, slots := kX.instanceTypes.map defaultValue, vm := .none } = T1 at X₁ st1
  have hcat : (Value.ref T.heap.size).category = 1 := rfl
  have hcellA : T1.heap[T.heap.size]? = some (freshCell cX kX) := by rw [← hT1]; exact State.heap_pushCell_size _ _
  have d3' : decode c.code (pc + 3) = .ok (.dup, 1) := by rw [hb]; exact d3
  have d4' : decode c.code (pc + 4) = .ok (.ldc is, 2) := by rw [hb]; exact d4
  have hstr' : vk_R own is text sa s' := vk_R.warm hW0 hstr
  obtain ⟨U, hsteps, hrun, hend, hW, hsame, ce, hce, hO⟩ := X₁.ctorThrowS hexec htr (own := own) (cls := cls) (names := names) (ic := ic) hown' hcls hnames h (fun x hx => nomatch hx) hfX hkX hcellA (by rw [hhp, hT]; exact Nat.le_refl _) (msg := .ref sa) rfl
    (g := { method := m, pc := pc + 6, locals := ls, stack := .ref sa :: .ref T.heap.size :: .ref T.heap.size :: rest, locked := none }) rfl hsize rfl rfl (rest := rest) rfl
    (by rw [hb]; exact d6) (by rw [hb]; exact d9) hout hRframes (by simp only [List.map_cons, List.sum_cons, hcat]; omega) hlocks
  obtain ⟨f1, f2⟩ := vx_frame hsame
  rw [hhp] at f1 f2
  have hWs : s.WarmedH U.vm := State.WarmedH.trans hW0 hW
  have hcl : s.vm.findClass cls = some ce.cls := by
    have h9 := hO.cls
    rw [hvm] at h9
    exact h9
  have hall : s.sameButNew ({ U with vm := s.vm } : State) locs mc ms := by
    subst hA
    obtain ⟨e1, e2⟩ := hsame
    rw [State.setFrames_setFrames] at e1
    have h2 : (T.setVm s.vm).sameButNew ({ U with vm := s.vm } : State) [] (0 + 1) (0 + 6) := ⟨e1, e2⟩
    have h3 := X.same.trans h2
    rw [List.append_nil] at h3
    exact h3.mono hc hs
  refine ⟨U, ?_, .threw T.heap.size, hrun, hend, Or.inr ⟨T.heap.size, rfl, cls, ce, locs, hx U hWs.alike f1 (fun q hq => f2 q hq (fun z hz => nomatch hz)), hce, hO.vm, hcl, hWs, hall, hf⟩⟩
  refine st1 _ ?_
  show Steps p.tables e below (T1.setTop { method := m, pc := pc + 3, locals := ls, stack := .ref T.heap.size :: rest, locked := none }) _
  jvm_step X₁.here [X₁.here.top, hexec, d3', Value.category]
  exact X₁.ldcString hexec (own := own) (text := text) (index := is) (a := sa) hown' hstr'.1 hstr'.2
    (g := { method := m, pc := pc + 4, locals := ls, stack := .ref T.heap.size :: .ref T.heap.size :: rest, locked := none }) rfl d4' _ hsteps
/-- 'throw new E("text")': new; dup; ldc; invokespecial; athrow -/
theorem dk_throwX {cc : ByteArray} {pc : Nat} (hexec : p.tables.exec = Jvm.exec) (hb : c.code = cc) (hl : l.stackTraces = false) {own cls text Y9 : String} {r9 : List String} {ik is ic mc ms sa : Nat} {A : Nat → Prop}
    (hown : s.vm.findClass own = some m.cls) (hcls : Bundle.fit cls = true) (hnames : ∀ n ∈ Y9 :: r9, Bundle.fit n = true)
    (hk : (Cond.classLink own ik cls).before args s = true) (hini : (Cond.initialized cls).before args s = true) (hstr : vk_R own is text sa s) (hat : ∀ w ∈ dk_atX own ic cls (Y9 :: r9), w.before args s = true)
    (hgood : ∀ w ∈ Cond.classLink own ik cls :: Cond.initialized cls :: dk_atX own ic cls (Y9 :: r9), vx_ot w = true)
    (hU : vx_Zq Bundle.tN "UNASSIGNED_STACK" Bundle.steD A s s.heap) (hN : vx_Zq Bundle.tN "SUPPRESSED_SENTINEL" Bundle.listD A s s.heap) (hS : va_S A s.heap H locs) (hsize : ls.size = c.maxLocals)
    (d0 : decode cc pc = .ok (.new ik, 3)) (d3 : decode cc (pc + 3) = .ok (.dup, 1)) (d4 : decode cc (pc + 4) = .ok (.ldc is, 2)) (d6 : decode cc (pc + 6) = .ok (.invokespecial ic, 3)) (d9 : decode cc (pc + 9) = .ok (.athrow, 1))
    (hout : ∀ x ∈ c.exceptionTable.toList, covers x (pc + 9) = false)
    (hRframes : (Y9 :: r9).length + 3 < R.frames) (hRlocals : (rest.map fun v => v.category).sum + (13 * ((Y9 :: r9).length + 1) + 43) ≤ R.locals) (hRcells : cells + 1 ≤ R.cells) (hRslots : slots + 6 ≤ R.slots) (hlocks : meth.locks = false)
    (hx : ∀ t : State, s.vm.Alike t.vm → H.size ≤ t.heap.size → (∀ q : Nat, q < H.size → t.heap[q]? = H[q]?) → XC cls s t)
    (hf : ∀ z ∈ locs, free z.base) (hc : cells + 1 ≤ mc) (hs : slots + 6 ≤ ms) :
    W p l e R s m args below meth c H locs cells slots (vx_MQ below Qc XC args s mc ms free) (F0 m pc ls rest) := by
  intro T hT X
  have htr : e.platform.stackTraces = false := (show e.platform.stackTraces = l.stackTraces by rw [X.admits.platform]).trans hl
  have Y := vx_rebase X (R' := { frames := R.frames, locals := R.locals, cells := 1, slots := 6 }) (Nat.le_refl _) (Nat.le_refl _) hRcells hRslots
  obtain ⟨s', hA⟩ : ∃ z, z = (T.setVm s.vm).setFrames (.invoking m args :: below) := ⟨_, rfl⟩
  rw [← hA] at Y
  have hvm : s'.vm = s.vm := by rw [hA]; rfl
  have hhp : s'.heap = H := by rw [hA]; exact hT
  have hW0 : s.WarmedH s'.vm := by rw [hvm]; exact State.WarmedH.refl s
  have hat' : ∀ w ∈ dk_atX own ic cls (Y9 :: r9), w.before args s' = true := fun w hw => vx_ot_at hW0 hvm.symm (hgood w (List.mem_cons_of_mem _ (List.mem_cons_of_mem _ hw))) (hat w hw)
  have hk' : (Cond.classLink own ik cls).before args s' = true := vx_ot_at hW0 hvm.symm (hgood _ List.mem_cons_self) hk
  have hini' : (Cond.initialized cls).before args s' = true := vx_ot_at hW0 hvm.symm (hgood _ (List.mem_cons_of_mem _ List.mem_cons_self)) hini
  have hU' : vx_Zq Bundle.tN "UNASSIGNED_STACK" Bundle.steD A s' s'.heap := by rw [hhp]; exact vx_Zq.moved hW0.alike (hU.kept hS.2.1)
  have hN' : vx_Zq Bundle.tN "SUPPRESSED_SENTINEL" Bundle.listD A s' s'.heap := by rw [hhp]; exact vx_Zq.moved hW0.alike (hN.kept hS.2.1)
  have h : ∀ w ∈ dk_ownX own ic cls (Y9 :: r9), w.before args s' = true := vx_own hat' (vx_isRefq hU'.1) (vx_isRefq hN'.1) hU'.2.word hN'.2.word
  have hown' : s'.vm.findClass own = some m.cls := by rw [hvm]; exact hown
  have hins : (Cond.instantiable cls 6).before args s' = true := h _ (by simp [dk_ownX])
  obtain ⟨vm₁, cX, kX, hfX, hkX, -, -, X₁, st1⟩ := Y.newCold hexec (own := own) (C := cls) (index := ik) (n := 6) hown' hk' hins hini'
    (g := F0 m pc ls rest) rfl (by rw [hb]; exact d0) (Nat.le_refl _) (Nat.le_refl _)
  generalize hT1 : (T.setVm vm₁).pushCell { cls := cX, slots := kX.instanceTypes.map defaultValue, vm := .none } = T1 at X₁ st1
  have hcat : (Value.ref T.heap.size).category = 1 := rfl
  have hcellA : T1.heap[T.heap.size]? = some (freshCell cX kX) := by rw [← hT1]; exact State.heap_pushCell_size _ _
  have d3' : decode c.code (pc + 3) = .ok (.dup, 1) := by rw [hb]; exact d3
  have d4' : decode c.code (pc + 4) = .ok (.ldc is, 2) := by rw [hb]; exact d4
  have hstr' : vk_R own is text sa s' := vk_R.warm hW0 hstr
  obtain ⟨U, hsteps, hrun, hend, hW, hsame, ce, hce, hO⟩ := dk_ctorX X₁ hexec htr (own := own) (cls := cls) (Y9 := Y9) (r9 := r9) (ic := ic) hown' hcls hnames h (fun x hx => nomatch hx) hfX hkX hcellA (by rw [hhp, hT]; exact Nat.le_refl _) (msg := .ref sa) rfl
    (g := { method := m, pc := pc + 6, locals := ls, stack := .ref sa :: .ref T.heap.size :: .ref T.heap.size :: rest, locked := none }) rfl hsize rfl rfl (rest := rest) rfl
    (by rw [hb]; exact d6) (by rw [hb]; exact d9) hout hRframes (by simp only [List.map_cons, List.sum_cons, hcat]; omega) hlocks
  obtain ⟨f1, f2⟩ := vx_frame hsame
  rw [hhp] at f1 f2
  have hWs : s.WarmedH U.vm := State.WarmedH.trans hW0 hW
  have hcl : s.vm.findClass cls = some ce.cls := by
    have h9 := hO.1
    rw [hvm] at h9
    exact h9
  have hall : s.sameButNew ({ U with vm := s.vm } : State) locs mc ms := by
    subst hA
    obtain ⟨e1, e2⟩ := hsame
    rw [State.setFrames_setFrames] at e1
    have h2 : (T.setVm s.vm).sameButNew ({ U with vm := s.vm } : State) [] (0 + 1) (0 + 6) := ⟨e1, e2⟩
    have h3 := X.same.trans h2
    rw [List.append_nil] at h3
    exact h3.mono hc hs
  refine ⟨U, ?_, .threw T.heap.size, hrun, hend, Or.inr ⟨T.heap.size, rfl, cls, ce, locs, hx U hWs.alike f1 (fun q hq => f2 q hq (fun z hz => nomatch hz)), hce, hO.2, hcl, hWs, hall, hf⟩⟩
  refine st1 _ ?_
  show Steps p.tables e below (T1.setTop { method := m, pc := pc + 3, locals := ls, stack := .ref T.heap.size :: rest, locked := none }) _
  jvm_step X₁.here [X₁.here.top, hexec, d3', Value.category]
  exact X₁.ldcString hexec (own := own) (text := text) (index := is) (a := sa) hown' hstr'.1 hstr'.2
    (g := { method := m, pc := pc + 4, locals := ls, stack := .ref T.heap.size :: .ref T.heap.size :: rest, locked := none }) rfl d4' _ hsteps
/-- 'throw new E("text")', the text by a wide index -/
theorem vx_throwSW {cc : ByteArray} {pc : Nat} (hexec : p.tables.exec = Jvm.exec) (hb : c.code = cc) (hl : l.stackTraces = false) {own cls text : String} {names : List String} {ik is ic mc ms sa : Nat} {A : Nat → Prop}
    (hown : s.vm.findClass own = some m.cls) (hcls : Bundle.fit cls = true) (hnames : ∀ n ∈ names, Bundle.fit n = true)
    (hk : (Cond.classLink own ik cls).before args s = true) (hini : (Cond.initialized cls).before args s = true) (hstr : vk_R own is text sa s) (hat : ∀ w ∈ vx_atS own ic cls names, w.before args s = true)
    (hgood : ∀ w ∈ Cond.classLink own ik cls :: Cond.initialized cls :: vx_atS own ic cls names, vx_ot w = true)
    (hU : vx_Zq Bundle.tN "UNASSIGNED_STACK" Bundle.steD A s s.heap) (hN : vx_Zq Bundle.tN "SUPPRESSED_SENTINEL" Bundle.listD A s s.heap) (hS : va_S A s.heap H locs) (hsize : ls.size = c.maxLocals)
    (d0 : decode cc pc = .ok (.new ik, 3)) (d3 : decode cc (pc + 3) = .ok (.dup, 1)) (d4 : decode cc (pc + 4) = .ok (.ldc_w is, 3)) (d7 : decode cc (pc + 7) = .ok (.invokespecial ic, 3)) (d10 : decode cc (pc + 10) = .ok (.athrow, 1))
    (hout : ∀ x ∈ c.exceptionTable.toList, covers x (pc + 10) = false)
    (hRframes : names.length + 3 < R.frames) (hRlocals : (rest.map fun v => v.category).sum + (13 * (names.length + 1) + 43) ≤ R.locals) (hRcells : cells + 1 ≤ R.cells) (hRslots : slots + 6 ≤ R.slots) (hlocks : meth.locks = false)
    (hx : ∀ t : State, s.vm.Alike t.vm → H.size ≤ t.heap.size → (∀ q : Nat, q < H.size → t.heap[q]? = H[q]?) → XC cls s t)
    (hf : ∀ z ∈ locs, free z.base) (hc : cells + 1 ≤ mc) (hs : slots + 6 ≤ ms) :
    W p l e R s m args below meth c H locs cells slots (vx_MQ below Qc XC args s mc ms free) (F0 m pc ls rest) := by
  intro T hT X
  have htr : e.platform.stackTraces = false := (show e.platform.stackTraces = l.stackTraces by rw [X.admits.platform]).trans hl
  have Y := vx_rebase X (R' := { frames := R.frames, locals := R.locals, cells := 1, slots := 6 }) (Nat.le_refl _) (Nat.le_refl _) hRcells hRslots
  obtain ⟨s', hA⟩ : ∃ z, z = (T.setVm s.vm).setFrames (.invoking m args :: below) := ⟨_, rfl⟩
  rw [← hA] at Y
  have hvm : s'.vm = s.vm := by rw [hA]; rfl
  have hhp : s'.heap = H := by rw [hA]; exact hT
  have hW0 : s.WarmedH s'.vm := by rw [hvm]; exact State.WarmedH.refl s
  have hat' : ∀ w ∈ vx_atS own ic cls names, w.before args s' = true := fun w hw => vx_ot_at hW0 hvm.symm (hgood w (List.mem_cons_of_mem _ (List.mem_cons_of_mem _ hw))) (hat w hw)
  have hk' : (Cond.classLink own ik cls).before args s' = true := vx_ot_at hW0 hvm.symm (hgood _ List.mem_cons_self) hk
  have hini' : (Cond.initialized cls).before args s' = true := vx_ot_at hW0 hvm.symm (hgood _ (List.mem_cons_of_mem _ List.mem_cons_self)) hini
  have hU' : vx_Zq Bundle.tN "UNASSIGNED_STACK" Bundle.steD A s' s'.heap := by rw [hhp]; exact vx_Zq.moved hW0.alike (hU.kept hS.2.1)
  have hN' : vx_Zq Bundle.tN "SUPPRESSED_SENTINEL" Bundle.listD A s' s'.heap := by rw [hhp]; exact vx_Zq.moved hW0.alike (hN.kept hS.2.1)
  have h : ∀ w ∈ Bundle.ownAtoms own ic cls names, w.before args s' = true := vx_own hat' (vx_isRefq hU'.1) (vx_isRefq hN'.1) hU'.2.word hN'.2.word
  have hown' : s'.vm.findClass own = some m.cls := by rw [hvm]; exact hown
  have hins : (Cond.instantiable cls 6).before args s' = true := h _ (by simp [Bundle.ownAtoms])
  obtain ⟨vm₁, cX, kX, hfX, hkX, -, -, X₁, st1⟩ := Y.newCold hexec (own := own) (C := cls) (index := ik) (n := 6) hown' hk' hins hini'
    (g := F0 m pc ls rest) rfl (by rw [hb]; exact d0) (Nat.le_refl _) (Nat.le_refl _)
  generalize hT1 : (T.setVm vm₁).pushCell { cls := cX, slots := kX.instanceTypes.map defaultValue, vm := .none } = T1 at X₁ st1
  have hcat : (Value.ref T.heap.size).category = 1 := rfl
  have hcellA : T1.heap[T.heap.size]? = some (freshCell cX kX) := by rw [← hT1]; exact State.heap_pushCell_size _ _
  have d3' : decode c.code (pc + 3) = .ok (.dup, 1) := by rw [hb]; exact d3
  have d4' : decode c.code (pc + 4) = .ok (.ldc_w is, 3) := by rw [hb]; exact d4
  have hstr' : vk_R own is text sa s' := vk_R.warm hW0 hstr
  obtain ⟨U, hsteps, hrun, hend, hW, hsame, ce, hce, hO⟩ := X₁.ctorThrowS hexec htr (own := own) (cls := cls) (names := names) (ic := ic) hown' hcls hnames h (fun x hx => nomatch hx) hfX hkX hcellA (by rw [hhp, hT]; exact Nat.le_refl _) (msg := .ref sa) rfl
    (g := { method := m, pc := pc + 7, locals := ls, stack := .ref sa :: .ref T.heap.size :: .ref T.heap.size :: rest, locked := none }) rfl hsize rfl rfl (rest := rest) rfl
    (by rw [hb]; exact d7) (by rw [hb]; exact d10) hout hRframes (by simp only [List.map_cons, List.sum_cons, hcat]; omega) hlocks
  obtain ⟨f1, f2⟩ := vx_frame hsame
  rw [hhp] at f1 f2
  have hWs : s.WarmedH U.vm := State.WarmedH.trans hW0 hW
  have hcl : s.vm.findClass cls = some ce.cls := by
    have h9 := hO.cls
    rw [hvm] at h9
    exact h9
  have hall : s.sameButNew ({ U with vm := s.vm } : State) locs mc ms := by
    subst hA
    obtain ⟨e1, e2⟩ := hsame
    rw [State.setFrames_setFrames] at e1
    have h2 : (T.setVm s.vm).sameButNew ({ U with vm := s.vm } : State) [] (0 + 1) (0 + 6) := ⟨e1, e2⟩
    have h3 := X.same.trans h2
    rw [List.append_nil] at h3
    exact h3.mono hc hs
  refine ⟨U, ?_, .threw T.heap.size, hrun, hend, Or.inr ⟨T.heap.size, rfl, cls, ce, locs, hx U hWs.alike f1 (fun q hq => f2 q hq (fun z hz => nomatch hz)), hce, hO.vm, hcl, hWs, hall, hf⟩⟩
  refine st1 _ ?_
  show Steps p.tables e below (T1.setTop { method := m, pc := pc + 3, locals := ls, stack := .ref T.heap.size :: rest, locked := none }) _
  jvm_step X₁.here [X₁.here.top, hexec, d3', Value.category]
  exact X₁.ldcStringW hexec (own := own) (text := text) (index := is) (a := sa) hown' hstr'.1 hstr'.2
    (g := { method := m, pc := pc + 4, locals := ls, stack := .ref T.heap.size :: .ref T.heap.size :: rest, locked := none }) rfl d4' _ hsteps
end Ends
section Bodies
variable {l : Launch}
theorem vx_ofW {y : MethodName} {ws ws' : List Cond} {rm : Room} {Pc : Array Value → State → Prop} {Qc : Array Value → State → Outcome → State → Prop} {XC : String → State → State → Prop} {mc ms : Nat} {free : Addr → Prop} {cc : ByteArray} {maxL : Nat} {ret : Option FieldType}
    (hy : plainName y.cls = true) (hw : ws = Cond.code y cc maxL ret :: ws')
    (body : ∀ p e s m args below meth c s₁, BodyLoose p l y (headSpec ws rm) cc maxL ret e s m args below meth c s₁ → c.maxLocals = maxL → (∀ x ∈ c.exceptionTable.toList, False) → Pc args s →
      W p l e (headSpec ws rm).room s m args below meth c s.heap [] 0 0 (vx_MQ below Qc XC args s mc ms free) (entryFrame m args maxL)) : vx_Met l y ws rm Pc Qc XC mc ms free := by
  refine MetFree.of_bodyS (code := cc) (maxLocals := maxL) (ret := ret) hy ?_ ?_
  · intro args s m h hn
    obtain ⟨meth, c, h1, h2, h3, h4, h5, h6, -, -⟩ := Cond.code_spec hn (atoms_spec (ws := ws) h _ (by rw [hw]; exact List.mem_cons_self))
    exact ⟨meth, c, h1, h2, h3, h4, h5, h6⟩
  · intro p e s m args below meth c s₁ B hml hP _
    have hh0 : s₁.heap = s.heap := by rw [B.state]; rfl
    have ht : ∀ x ∈ c.exceptionTable.toList, False := by
      obtain ⟨meth9, c9, h1, h2, -, -, -, -, h7, -⟩ := Cond.code_spec B.named (atoms_spec (ws := ws) B.pre _ (by rw [hw]; exact List.mem_cons_self))
      cases Option.some.inj (h1.symm.trans B.method)
      cases Option.some.inj (h2.symm.trans (Stand.of_body B).code)
      intro x hx
      rw [Array.isEmpty_iff.mp h7] at hx
      cases hx
    obtain ⟨t, a1, o, b1, b2, b3⟩ := body p e s m args below meth c s₁ B hml ht hP s₁ hh0 (Stand.of_body B)
    exact ⟨t, o, a1, b1, b2, b3⟩
/-- the table of a body with handlers -/
theorem vx_table {p : Program} {x y : MethodName} {S : Spec} {cc bytes : ByteArray} {maxL maxL' : Nat} {ret ret' : Option FieldType} {e : Env} {s s₁ : State} {m : MethodId} {args : Array Value} {below : List Frame} {meth : Method} {c : Code} {hh : List (Nat × Nat × Nat × Nat)}
    (B : BodyLoose p l y S cc maxL ret e s m args below meth c s₁) (h : (Cond.codeWith y bytes maxL' ret' hh).before args s = true) : c.exceptionTable.toList = tableOf hh := by
  obtain ⟨m9, meth9, c9, hn9, h1, h2, -, -, h6, -⟩ := Cond.codeWith_spec h
  cases Option.some.inj (hn9.symm.trans B.named)
  cases Option.some.inj (h1.symm.trans B.method)
  cases Option.some.inj (h2.symm.trans (Stand.of_body B).code)
  rw [← h6, table_eq]
end Bodies
end VXA
/-! ===== END ===== -/
/-! ===== BEGIN a static call of a method with an exception table ===== -/
section VXS
variable {p : Program} {l : Launch} {e : Env} {R : Room} {s : State} {m : MethodId} {args : Array Value} {below : List Frame} {meth : Method} {c : Code} {T : State} {H : Heap} {locs : List Loc} {cells slots : Nat}
abbrev vx_CSW (R : Room) (s : State) (args : Array Value) (own : String) (index : Nat) (y : MethodName) (bytes : ByteArray) (maxL : Nat) (ret : Option FieldType) (hh : List (Nat × Nat × Nat × Nat)) (ws : List Cond) (rm : Room) (mc ms n : Nat) : Prop :=
  (rm.cells = mc ∧ rm.slots = ms ∧ rm.frames + 1 ≤ R.frames ∧ 8 + (maxL + 11) + rm.locals ≤ R.locals ∧ (∀ w ∈ ws, ∀ (a' : Array Value) (U : State), s.WarmedH U.vm → w.before a' U = true) ∧ Cond.codeWith y bytes maxL ret hh ∈ ws) ∧
  (Cond.codeWith y bytes maxL ret hh).before args s = true ∧ (Cond.initialized y.cls).before args s = true ∧ (y.cls ≠ "java/lang/invoke/MethodHandle" ∧ y.cls ≠ "java/lang/invoke/VarHandle") ∧
  (∀ sig, parseMethodDescriptor y.desc = some sig → n = sig.parameters.length) ∧ (Cond.methodLink own index y).before args s = true ∧ (Cond.static y).before args s = true
theorem vx_cwSW {own : String} {index maxL mc ms : Nat} {y : MethodName} {bytes : ByteArray} {ret : Option FieldType} {hh : List (Nat × Nat × Nat × Nat)} {Ts ws ws' : List Cond} {rm : Room} (n : Nat) (ht : ∀ w ∈ Ts, w.before args s = true) (hT : GoodIn Ts (va_wsS own index y ws)) (hw : ws = Cond.codeWith y bytes maxL ret hh :: ws') (hrc : rm.cells = mc) (hrs : rm.slots = ms)
    (hd : y.cls ≠ "java/lang/invoke/MethodHandle" ∧ y.cls ≠ "java/lang/invoke/VarHandle" ∧ (parseMethodDescriptor y.desc).map (fun d => d.parameters.length) = some n) (hR : rm.frames + 1 ≤ R.frames ∧ 8 + (maxL + 11) + rm.locals ≤ R.locals) :
    vx_CSW R s args own index y bytes maxL ret hh ws rm mc ms n := by
  have ok : ∀ w ∈ va_wsS own index y ws, w.before args s = true := fun w h => ht w (hT w h).1
  have hG : GoodIn Ts ws := fun w h => hT w (by unfold va_wsS; exact List.mem_append_right _ h)
  have hc : Cond.codeWith y bytes maxL ret hh ∈ ws := by rw [hw]; exact List.mem_cons_self
  refine ⟨⟨hrc, hrs, hR.1, hR.2, pay_in ht hG, hc⟩, ht _ (hG _ hc).1, ok _ (by simp [va_wsS]), ⟨hd.1, hd.2.1⟩, fun sig h => ?_, ok _ (by simp [va_wsS]), ok _ (by simp [va_wsS])⟩
  have h2 := hd.2.2
  rw [h] at h2
  exact (Option.some.inj h2).symm
theorem vx_callSW (X : Stand p l e R s m args below meth c T locs cells slots) (hexec : p.tables.exec = Jvm.exec) {own : String} {index : Nat} {y : MethodName} {bytes : ByteArray} {maxL : Nat} {ret : Option FieldType} {hh : List (Nat × Nat × Nat × Nat)}
    (hown : s.vm.findClass own = some m.cls) (hlink : (Cond.methodLink own index y).before args s = true) (hstat : (Cond.static y).before args s = true) (hinit : (Cond.initialized y.cls).before args s = true)
    (hcode : (Cond.codeWith y bytes maxL ret hh).before args s = true) (hy : y.cls ≠ "java/lang/invoke/MethodHandle" ∧ y.cls ≠ "java/lang/invoke/VarHandle")
    {W9 : Nat} {Pre : Pt → Array Value → Prop} {Post : Pt → Array Value → Option Value → Pt → Prop} (hK : Back l R p e below s args y 3 W9 Pre Post)
    {g : JFrame} (hg : g.method = m) (hsize : g.locals.size = c.maxLocals) {argsL rest : List Value} (hlen : ∀ sig, parseMethodDescriptor y.desc = some sig → argsL.length = sig.parameters.length)
    (hstack : g.stack = argsL.reverse ++ rest) (hW : 2 * g.monitorRoom + (rest.map fun v => v.category).sum ≤ W9) (hdg : decode c.code g.pc = .ok (.invokestatic index, 3))
    (hpre : ∀ vm₁, s.WarmedH vm₁ → Pre ⟨T.setVm vm₁, locs, cells, slots⟩ argsL.toArray) :
    ∃ (v : Option Value) (vm₁ : Vm) (B : Pt), s.WarmedH vm₁ ∧ Stand p l e R s m args below meth c B.U B.locs B.cells B.slots ∧ Post ⟨T.setVm vm₁, locs, cells, slots⟩ argsL.toArray v B ∧
      ∀ target, Steps p.tables e below (B.U.setTop { g with pc := g.pc + 3, stack := v.toList ++ rest }) target → Steps p.tables e below (T.setTop g) target := by
  obtain ⟨mk, methM, cM, hnamed, hmethM, -, -, -, -, -, -, hsigM⟩ := Cond.codeWith_spec hcode
  have hstatic : methM.isStatic = true := Cond.static_spec hnamed hmethM hstat
  obtain ⟨kP, hkP, -⟩ := className_of_methodNamed hnamed
  have hinitP : kP.init = .initialized := Cond.initialized_spec (findClass_of_methodNamed hnamed) hkP hinit
  obtain ⟨vm₁, X₁, hstep₁⟩ := X.invokestatic hexec hown hlink hnamed hmethM hstatic hkP hinitP hy (g := g) hg (argsL := argsL) (rest := rest) (hlen _ hsigM) hstack hdg
  obtain ⟨v, B, X', hpost, hsteps⟩ := hK m meth c ⟨T.setVm vm₁, locs, cells, slots⟩ { g with stack := rest } (.invokestatic index) mk argsL.toArray X₁ hg hsize hdg hW (X₁.named hnamed) (hpre vm₁ X₁.warmed)
  exact ⟨v, vm₁, B, X₁.warmed, X', hpost, fun target h => hstep₁ _ fun acts => by rw [doInvoke_state]; exact hsteps.trans h⟩
theorem vx_runSW {y : MethodName} {bytes cc : ByteArray} {maxL nL mc ms n index : Nat} {ret : Option FieldType} {hh : List (Nat × Nat × Nat × Nat)} {ws : List Cond} {rm : Room} {Pc : Array Value → State → Prop} {Qc : Array Value → State → Outcome → State → Prop} {free : Addr → Prop} {Ts : List Cond} {own : String} {As rest : List Value} {g : JFrame}
    (S : CallFix p m c cc nL s args Ts own) (hM : Met l y ws rm Pc Qc mc ms free) (cw : vx_CSW R s args own index y bytes maxL ret hh ws rm mc ms n) (hp : PreS s H Pc As)
    (hg : g.method = m) (hn : As.length = n) (hsize : g.locals.size = nL) (hstack : g.stack = As.reverse ++ rest) (hW : 2 * g.monitorRoom + (rest.map fun v => v.category).sum ≤ 8) (hdg : decode cc g.pc = .ok (.invokestatic index, 3)) (hf : cells + mc ≤ R.cells ∧ slots + ms ≤ R.slots) :
    va_Run p l e R s m args below meth c H locs cells slots mc ms g rest (Qc As.toArray) (free) := by
  obtain ⟨⟨hrc, hrs, hfr, hlo, hws, hcw⟩, hcode, hini, hy, hlen, hl, hstt⟩ := cw
  have hK : Back l R p e below s args y 3 8 (PreOf R mc ms Pc) (PostOf Qc mc ms free) := va_backW (hh := hh) (bytes := bytes) (maxL := maxL) (ret := ret) hM hp.1 hrc hrs hfr hlo hws hcw (fun a' U hW => word_at hW (Or.inl (by first | rfl | simp [Cond.onTables, Cond.keeps, Cond.steady])) hini)
  obtain ⟨hx, hb, hml, ho, -⟩ := S
  intro T hT X
  obtain ⟨v, vm₁, ⟨U', l2, c2, s2⟩, hW₁, X', ⟨g', mk, t, L, e1, e2, hq, h1, hL, h2, h3⟩, st⟩ := vx_callSW X hx (hh := hh) (bytes := bytes) (maxL := maxL) (ret := ret) ho hl hstt hini hcode hy hK hg (hsize.trans hml.symm) (argsL := As) (rest := rest) (fun sig h => hn.trans (hlen sig h)) hstack hW (by rw [hb]; exact hdg)
    (fun vm₁ hW₁ => ⟨hf.1, hf.2, hp.2 (T.setVm vm₁) hT hW₁⟩)
  dsimp only [Pt.U, Pt.locs, Pt.cells, Pt.slots] at X' e1 e2 h1 h2 h3 st
  subst h1; subst h2; subst h3
  exact ⟨v, (T.setVm vm₁).calling g' mk As.toArray, t, U', L, hT, X', hL, e1, e2, hq, st⟩
/-- a thing of a world lies in the heap -/
theorem vx_lt {D : va_G} {cl : List vw_C} {ws : va_W} {H1 : Heap} (h : va_P D cl ws H1) {k : Nat} {q : Nat × va_E} (hk : ws[k]? = some q) : q.1 < H1.size := (h k q hk).lt
end VXS
/-! ===== END ===== -/
/-! ===== BEGIN methods with a table of their own: called by a name, returning or throwing ===== -/
section VXH
/-! vx_backW, vx_callVX, vx_callSX, vx_callVW, vx_runVW, vx_runVX, vx_runSX, vx_ofWH follow the same proofs as their sisters above (Free/Laws.lean, Shelf42/LK1.lean); vx_outP calls Shelf42/NT130.lean (outThrough). -/
section
variable {l : Launch} {R : Room} {p : Program} {e : Env} {below : List Frame} {s : State} {sargs : Array Value} {y : MethodName} {len W9 : Nat}
theorem vx_backW {ws : List Cond} {rm : Room} {Pc : Array Value → State → Prop} {Qc : Array Value → State → Outcome → State → Prop} {XC : String → State → State → Prop} {mc ms : Nat} {free : Addr → Prop} {bytes : ByteArray} {maxL : Nat} {ret : Option FieldType} {hh : List (Nat × Nat × Nat × Nat)}
    (hM : vx_Met l y ws rm Pc Qc XC mc ms free) (hblind : FrameBlind Pc) (hrc : rm.cells = mc) (hrs : rm.slots = ms)
    (hframes : rm.frames + 1 ≤ R.frames) (hlocals : W9 + (maxL + 11) + rm.locals ≤ R.locals)
    (hws : ∀ w ∈ ws, ∀ a' U, s.WarmedH U.vm → w.before a' U = true) (hcode : Cond.codeWith y bytes maxL ret hh ∈ ws) (hinit : ∀ a' U, s.WarmedH U.vm → (Cond.initialized y.cls).before a' U = true) :
    vx_Back l R p e below s sargs y len W9 (PreOf R mc ms Pc) (PostOf Qc mc ms free) (vx_Post XC mc ms free) := by
  intro m meth c A g ig mk a X hg hsize hdg hW hn hp
  have h1 : (headSpec ws rm).pre.before a A.U = true := atoms_intro fun w hw => hws w hw _ _ X.warmed
  have h2 : (Cond.codeWith y bytes maxL ret hh).before a A.U = true := hws _ hcode _ _ X.warmed
  have h3 : (Cond.initialized y.cls).before a A.U = true := hinit _ _ X.warmed
  have h4 : A.cells + (headSpec ws rm).room.cells ≤ R.cells := by rw [show (headSpec ws rm).room.cells = mc from hrc]; exact hp.1
  have h5 : A.slots + (headSpec ws rm).room.slots ≤ R.slots := by rw [show (headSpec ws rm).room.slots = ms from hrs]; exact hp.2.1
  have hPc : Pc a (A.U.calling g mk a) := hblind _ _ _ _ hp.2.2
  obtain ⟨U, Ls, c0, s0⟩ := A
  dsimp only [Pt.U, Pt.locs, Pt.cells, Pt.slots] at h1 h2 h3 h4 h5 X hn hPc ⊢
  obtain ⟨m9, methY, cY, hn9, hmY, hcY, -, hlY, -⟩ := Cond.codeWith_spec h2
  cases Option.some.inj (hn9.symm.trans hn)
  obtain ⟨kY, hkY, -⟩ := className_of_methodNamed hn
  have hinitY : kY.init = .initialized := Cond.initialized_spec (findClass_of_methodNamed hn) hkY h3
  have h : At U g.method c below := by rw [hg]; exact X.here
  have hlocals9 : W9 + (maxL + 11) + (headSpec ws rm).room.locals ≤ R.locals := hlocals
  have happ : (headSpec ws rm).appliesLoose y e.platform (U.calling g mk a) = true :=
    Spec.appliesLoose_calling (g := g) h hdg hn hkY hinitY
      (X.room_calling (g := g) (R' := (headSpec ws rm).room) hsize hmY hcY hframes (by rw [hlY]; omega) h4 h5) h1
  obtain ⟨mid, hmid⟩ := h.above
  have hfr : (U.setTop g).frames = (.java g :: mid) ++ below := by rw [State.frames_setTop' g h.top, hmid]; rfl
  obtain ⟨o, s₂, hsteps, -, hend, hq⟩ := Steps.callFree hM p X.admits X.cas X.clock (acts := []) hfr happ hPc trivial
  have hq' : vx_Q Qc XC mc ms free a (U.calling g mk a) o s₂ := hq
  rw [State.frames_setTop' g h.top] at hend
  obtain ⟨g₀, hg0⟩ := Option.isSome_iff_exists.mp h.top
  obtain ⟨r, hr⟩ := State.topJava?_eq_some.mp hg0
  have hr' : (({ U with heap := s₂.heap, slotsUsed := s₂.slotsUsed } : State).setVm s₂.vm).frames = .java g₀ :: r := hr
  rcases hq' with ⟨hqc, L, hfe, hL⟩ | ⟨q, rfl, E, ce, L, hx, hce, hcv, hcl, hW₂, hsm, hL⟩
  · obtain ⟨⟨v, rfl⟩, hW₂, e2, q2, q3, q4, q5, q6⟩ := id hfe
    have e3 : s₂ = ({ (U.calling g mk a).setFrames s₂.frames with heap := s₂.heap, slotsUsed := s₂.slotsUsed } : State).setVm s₂.vm := by
      have : s₂ = ({ s₂ with vm := (U.calling g mk a).vm } : State).setVm s₂.vm := rfl
      rw [e2] at this
      exact this
    obtain ⟨c₂, i₂, len₂, hc₂, hd₂, hf₂⟩ := hend
    have hW' : U.WarmedH s₂.vm := hW₂
    have hcc : c₂ = c := by
      have h1 : s₂.code? g.method = U.code? g.method := by
        rw [State.code?_eq, State.code?_eq, hW'.alike.method?]
      exact Option.some.inj (hc₂.symm.trans (h1.trans h.code))
    subst hcc
    have hlen : len₂ = len := by rw [hdg] at hd₂; cases hd₂; rfl
    subst hlen
    have hs₂ : s₂ = (({ U with heap := s₂.heap, slotsUsed := s₂.slotsUsed } : State).setVm s₂.vm).setTop { g with pc := g.pc + len₂, stack := v.toList ++ g.stack } := by
      refine e3.trans ?_
      rw [hf₂, State.calling_eq h.top, State.setFrames_setFrames, State.setTop_of_frames _ hr', hr]
      rfl
    have hsame : U.sameButNew ({ U with heap := s₂.heap, slotsUsed := s₂.slotsUsed } : State) L mc ms := by
      refine ⟨?_, q2, q3, q4, q5, q6⟩
      obtain ⟨t, ht, -⟩ := State.frames_cons hr
      show ({ U with heap := s₂.heap, slotsUsed := s₂.slotsUsed } : State) = { U.setFrames U.frames with heap := s₂.heap, slotsUsed := s₂.slotsUsed }
      rw [State.setFrames_self ht]
    subst hg
    refine Or.inl ⟨v, ⟨(({ U with heap := s₂.heap, slotsUsed := s₂.slotsUsed } : State).setVm s₂.vm), Ls ++ L, c0 + mc, s0 + ms⟩,
      ⟨X.admits, X.cas, X.clock, X.frames, X.room, X.hears, X.method, X.code, (X.here.setHeapUsed s₂.heap s₂.slotsUsed).setVm hW'.alike, X.tail, State.WarmedH.trans X.warmed hW', X.limits, X.bytes, X.same.trans (hsame.setVm s.vm)⟩,
      ⟨g, mk, s₂, L, rfl, rfl, hqc, rfl, hL, rfl, rfl⟩, ?_⟩
    show Steps p.tables e below _ ((({ U with heap := s₂.heap, slotsUsed := s₂.slotsUsed } : State).setVm s₂.vm).setTop { g with pc := g.pc + len₂, stack := v.toList ++ g.stack })
    rw [← hs₂]
    exact hsteps
  · obtain ⟨e2, q2, q3, q4, q5, q6⟩ := id hsm
    have e3 : s₂ = ({ (U.calling g mk a).setFrames s₂.frames with heap := s₂.heap, slotsUsed := s₂.slotsUsed } : State).setVm s₂.vm := by
      have : s₂ = ({ s₂ with vm := (U.calling g mk a).vm } : State).setVm s₂.vm := rfl
      rw [e2] at this
      exact this
    have hf₂ : s₂.frames = .throwing q :: .java g :: U.frames.tail := hend
    have hW' : U.WarmedH s₂.vm := hW₂
    have hs₂ : s₂ = ((({ U with heap := s₂.heap, slotsUsed := s₂.slotsUsed } : State).setVm s₂.vm).setTop g).pushFrame (.throwing q) := by
      refine e3.trans ?_
      rw [hf₂, State.calling_eq h.top, State.setFrames_setFrames, State.pushFrame, State.frames_setTop _ hr', State.setTop_of_frames _ hr', State.setFrames_setFrames, hr]
      rfl
    have hsame : U.sameButNew ({ U with heap := s₂.heap, slotsUsed := s₂.slotsUsed } : State) L mc ms := by
      refine ⟨?_, q2, q3, q4, q5, q6⟩
      obtain ⟨t, ht, -⟩ := State.frames_cons hr
      show ({ U with heap := s₂.heap, slotsUsed := s₂.slotsUsed } : State) = { U.setFrames U.frames with heap := s₂.heap, slotsUsed := s₂.slotsUsed }
      rw [State.setFrames_self ht]
    subst hg
    refine Or.inr ⟨q, ⟨(({ U with heap := s₂.heap, slotsUsed := s₂.slotsUsed } : State).setVm s₂.vm), Ls ++ L, c0 + mc, s0 + ms⟩,
      ⟨X.admits, X.cas, X.clock, X.frames, X.room, X.hears, X.method, X.code, (X.here.setHeapUsed s₂.heap s₂.slotsUsed).setVm hW'.alike, X.tail, State.WarmedH.trans X.warmed hW', X.limits, X.bytes, X.same.trans (hsame.setVm s.vm)⟩,
      ⟨g, mk, s₂, L, E, ce, rfl, rfl, hx, hce, hcv, hcl, rfl, hL, rfl, rfl⟩, ?_⟩
    show Steps p.tables e below _ (((({ U with heap := s₂.heap, slotsUsed := s₂.slotsUsed } : State).setVm s₂.vm).setTop g).pushFrame (.throwing q))
    rw [← hs₂]
    exact hsteps
end
variable {p : Program} {l : Launch} {e : Env} {R : Room} {s : State} {m : MethodId} {args : Array Value} {below : List Frame} {meth : Method} {c : Code} {T : State} {H : Heap} {locs : List Loc} {cells slots : Nat}
theorem vx_callVX (X : Stand p l e R s m args below meth c T locs cells slots) (hexec : p.tables.exec = Jvm.exec) {own C : String} {index : Nat} {y : MethodName} {bytes : ByteArray} {maxL : Nat} {ret : Option FieldType} {hh : List (Nat × Nat × Nat × Nat)}
    (hown : s.vm.findClass own = some m.cls) (hlink : (Cond.methodLink own index y).before args s = true) (hinst : (Cond.instanceMethod y).before args s = true) (hsel : (Cond.selects C y y).before args s = true)
    (hcode : (Cond.codeWith y bytes maxL ret hh).before args s = true) (hy : y.cls ≠ "java/lang/invoke/MethodHandle" ∧ y.cls ≠ "java/lang/invoke/VarHandle")
    {W9 : Nat} {Pre : Pt → Array Value → Prop} {Post : Pt → Array Value → Option Value → Pt → Prop} {PostX : Pt → Array Value → Addr → Pt → Prop} (hK : vx_Back l R p e below s args y 3 W9 Pre Post PostX)
    {b : Addr} {cellB : Cell} (hcell : T.heap[b]? = some cellB) (hobj : cellB.vm.isStatics = false) (hcls : s.vm.findClass C = some cellB.cls)
    {g : JFrame} (hg : g.method = m) (hsize : g.locals.size = c.maxLocals) {argsL rest : List Value} (hlen : ∀ sig, parseMethodDescriptor y.desc = some sig → argsL.length = sig.parameters.length)
    (hstack : g.stack = argsL.reverse ++ .ref b :: rest) (hW : 2 * g.monitorRoom + (rest.map fun v => v.category).sum ≤ W9) (hdg : decode c.code g.pc = .ok (.invokevirtual index, 3))
    (hpre : ∀ vm₁, s.WarmedH vm₁ → Pre ⟨T.setVm vm₁, locs, cells, slots⟩ (Value.ref b :: argsL).toArray) :
    (∃ (v : Option Value) (vm₁ : Vm) (B : Pt), s.WarmedH vm₁ ∧ Stand p l e R s m args below meth c B.U B.locs B.cells B.slots ∧ Post ⟨T.setVm vm₁, locs, cells, slots⟩ (Value.ref b :: argsL).toArray v B ∧
      ∀ target, Steps p.tables e below (B.U.setTop { g with pc := g.pc + 3, stack := v.toList ++ rest }) target → Steps p.tables e below (T.setTop g) target) ∨
    (∃ (q : Addr) (vm₁ : Vm) (B : Pt), s.WarmedH vm₁ ∧ Stand p l e R s m args below meth c B.U B.locs B.cells B.slots ∧ PostX ⟨T.setVm vm₁, locs, cells, slots⟩ (Value.ref b :: argsL).toArray q B ∧
      Steps p.tables e below (T.setTop g) ((B.U.setTop { g with stack := rest }).pushFrame (.throwing q))) := by
  obtain ⟨mk, methM, hnamed, hmethM, hstM, habM⟩ := Cond.instanceMethod_spec hinst
  obtain ⟨m8, methM', cM, hn8, hmethM', -, -, -, -, -, -, hsigM⟩ := Cond.codeWith_spec hcode
  cases Option.some.inj (hn8.symm.trans hnamed)
  cases hmethM.symm.trans hmethM'
  obtain ⟨c2, r2, m2, q1, q2, q3, q4, kP, hkP, hkPi⟩ := Cond.selects_spec hsel
  cases hcls.symm.trans q1
  cases (State.methodFound?_of_named hnamed hy).symm.trans q2
  cases hnamed.symm.trans q3
  have hselP : selectMethod e.platform s.vm cellB.cls mk = .method mk := by rw [Launch.admits_selectMethod X.admits]; exact q4
  obtain ⟨vm₁, X₁, hstep₁⟩ := X.invokevirtual hexec hown hlink hnamed hmethM hstM hkP hkPi hy (a := b) (cell := cellB) hcell
    (fun z h => by rw [h] at hobj; cases hobj) hselP hmethM habM hkP hkPi (g := g) hg (argsL := argsL) (rest := rest) (hlen _ hsigM) hstack hdg
  rcases hK m meth c ⟨T.setVm vm₁, locs, cells, slots⟩ { g with stack := rest } (.invokevirtual index) mk (Value.ref b :: argsL).toArray X₁ hg hsize hdg hW (X₁.named hnamed) (hpre vm₁ X₁.warmed) with ⟨v, B, X', hpost, hsteps⟩ | ⟨q, B, X', hpost, hsteps⟩
  · exact Or.inl ⟨v, vm₁, B, X₁.warmed, X', hpost, fun target h => hstep₁ _ fun acts => by rw [doInvoke_state]; exact hsteps.trans h⟩
  · exact Or.inr ⟨q, vm₁, B, X₁.warmed, X', hpost, hstep₁ _ fun acts => by rw [doInvoke_state]; exact hsteps⟩
theorem vx_callSX (X : Stand p l e R s m args below meth c T locs cells slots) (hexec : p.tables.exec = Jvm.exec) {own : String} {index : Nat} {y : MethodName} {bytes : ByteArray} {maxL : Nat} {ret : Option FieldType} {hh : List (Nat × Nat × Nat × Nat)}
    (hown : s.vm.findClass own = some m.cls) (hlink : (Cond.methodLink own index y).before args s = true) (hstat : (Cond.static y).before args s = true) (hinit : (Cond.initialized y.cls).before args s = true)
    (hcode : (Cond.codeWith y bytes maxL ret hh).before args s = true) (hy : y.cls ≠ "java/lang/invoke/MethodHandle" ∧ y.cls ≠ "java/lang/invoke/VarHandle")
    {W9 : Nat} {Pre : Pt → Array Value → Prop} {Post : Pt → Array Value → Option Value → Pt → Prop} {PostX : Pt → Array Value → Addr → Pt → Prop} (hK : vx_Back l R p e below s args y 3 W9 Pre Post PostX)
    {g : JFrame} (hg : g.method = m) (hsize : g.locals.size = c.maxLocals) {argsL rest : List Value} (hlen : ∀ sig, parseMethodDescriptor y.desc = some sig → argsL.length = sig.parameters.length)
    (hstack : g.stack = argsL.reverse ++ rest) (hW : 2 * g.monitorRoom + (rest.map fun v => v.category).sum ≤ W9) (hdg : decode c.code g.pc = .ok (.invokestatic index, 3))
    (hpre : ∀ vm₁, s.WarmedH vm₁ → Pre ⟨T.setVm vm₁, locs, cells, slots⟩ argsL.toArray) :
    (∃ (v : Option Value) (vm₁ : Vm) (B : Pt), s.WarmedH vm₁ ∧ Stand p l e R s m args below meth c B.U B.locs B.cells B.slots ∧ Post ⟨T.setVm vm₁, locs, cells, slots⟩ argsL.toArray v B ∧
      ∀ target, Steps p.tables e below (B.U.setTop { g with pc := g.pc + 3, stack := v.toList ++ rest }) target → Steps p.tables e below (T.setTop g) target) ∨
    (∃ (q : Addr) (vm₁ : Vm) (B : Pt), s.WarmedH vm₁ ∧ Stand p l e R s m args below meth c B.U B.locs B.cells B.slots ∧ PostX ⟨T.setVm vm₁, locs, cells, slots⟩ argsL.toArray q B ∧
      Steps p.tables e below (T.setTop g) ((B.U.setTop { g with stack := rest }).pushFrame (.throwing q))) := by
  obtain ⟨mk, methM, cM, hnamed, hmethM, -, -, -, -, -, -, hsigM⟩ := Cond.codeWith_spec hcode
  have hstatic : methM.isStatic = true := Cond.static_spec hnamed hmethM hstat
  obtain ⟨kP, hkP, -⟩ := className_of_methodNamed hnamed
  have hinitP : kP.init = .initialized := Cond.initialized_spec (findClass_of_methodNamed hnamed) hkP hinit
  obtain ⟨vm₁, X₁, hstep₁⟩ := X.invokestatic hexec hown hlink hnamed hmethM hstatic hkP hinitP hy (g := g) hg (argsL := argsL) (rest := rest) (hlen _ hsigM) hstack hdg
  rcases hK m meth c ⟨T.setVm vm₁, locs, cells, slots⟩ { g with stack := rest } (.invokestatic index) mk argsL.toArray X₁ hg hsize hdg hW (X₁.named hnamed) (hpre vm₁ X₁.warmed) with ⟨v, B, X', hpost, hsteps⟩ | ⟨q, B, X', hpost, hsteps⟩
  · exact Or.inl ⟨v, vm₁, B, X₁.warmed, X', hpost, fun target h => hstep₁ _ fun acts => by rw [doInvoke_state]; exact hsteps.trans h⟩
  · exact Or.inr ⟨q, vm₁, B, X₁.warmed, X', hpost, hstep₁ _ fun acts => by rw [doInvoke_state]; exact hsteps⟩
theorem vx_callVW (X : Stand p l e R s m args below meth c T locs cells slots) (hexec : p.tables.exec = Jvm.exec) {own C : String} {index : Nat} {y : MethodName} {bytes : ByteArray} {maxL : Nat} {ret : Option FieldType} {hh : List (Nat × Nat × Nat × Nat)}
    (hown : s.vm.findClass own = some m.cls) (hlink : (Cond.methodLink own index y).before args s = true) (hinst : (Cond.instanceMethod y).before args s = true) (hsel : (Cond.selects C y y).before args s = true)
    (hcode : (Cond.codeWith y bytes maxL ret hh).before args s = true) (hy : y.cls ≠ "java/lang/invoke/MethodHandle" ∧ y.cls ≠ "java/lang/invoke/VarHandle")
    {W9 : Nat} {Pre : Pt → Array Value → Prop} {Post : Pt → Array Value → Option Value → Pt → Prop} (hK : Back l R p e below s args y 3 W9 Pre Post)
    {b : Addr} {cellB : Cell} (hcell : T.heap[b]? = some cellB) (hobj : cellB.vm.isStatics = false) (hcls : s.vm.findClass C = some cellB.cls)
    {g : JFrame} (hg : g.method = m) (hsize : g.locals.size = c.maxLocals) {argsL rest : List Value} (hlen : ∀ sig, parseMethodDescriptor y.desc = some sig → argsL.length = sig.parameters.length)
    (hstack : g.stack = argsL.reverse ++ .ref b :: rest) (hW : 2 * g.monitorRoom + (rest.map fun v => v.category).sum ≤ W9) (hdg : decode c.code g.pc = .ok (.invokevirtual index, 3))
    (hpre : ∀ vm₁, s.WarmedH vm₁ → Pre ⟨T.setVm vm₁, locs, cells, slots⟩ (Value.ref b :: argsL).toArray) :
    ∃ (v : Option Value) (vm₁ : Vm) (B : Pt), s.WarmedH vm₁ ∧ Stand p l e R s m args below meth c B.U B.locs B.cells B.slots ∧ Post ⟨T.setVm vm₁, locs, cells, slots⟩ (Value.ref b :: argsL).toArray v B ∧
      ∀ target, Steps p.tables e below (B.U.setTop { g with pc := g.pc + 3, stack := v.toList ++ rest }) target → Steps p.tables e below (T.setTop g) target := by
  obtain ⟨mk, methM, hnamed, hmethM, hstM, habM⟩ := Cond.instanceMethod_spec hinst
  obtain ⟨m8, methM', cM, hn8, hmethM', -, -, -, -, -, -, hsigM⟩ := Cond.codeWith_spec hcode
  cases Option.some.inj (hn8.symm.trans hnamed)
  cases hmethM.symm.trans hmethM'
  obtain ⟨c2, r2, m2, q1, q2, q3, q4, kP, hkP, hkPi⟩ := Cond.selects_spec hsel
  cases hcls.symm.trans q1
  cases (State.methodFound?_of_named hnamed hy).symm.trans q2
  cases hnamed.symm.trans q3
  have hselP : selectMethod e.platform s.vm cellB.cls mk = .method mk := by rw [Launch.admits_selectMethod X.admits]; exact q4
  obtain ⟨vm₁, X₁, hstep₁⟩ := X.invokevirtual hexec hown hlink hnamed hmethM hstM hkP hkPi hy (a := b) (cell := cellB) hcell
    (fun z h => by rw [h] at hobj; cases hobj) hselP hmethM habM hkP hkPi (g := g) hg (argsL := argsL) (rest := rest) (hlen _ hsigM) hstack hdg
  obtain ⟨v, B, X', hpost, hsteps⟩ := hK m meth c ⟨T.setVm vm₁, locs, cells, slots⟩ { g with stack := rest } (.invokevirtual index) mk (Value.ref b :: argsL).toArray X₁ hg hsize hdg hW (X₁.named hnamed) (hpre vm₁ X₁.warmed)
  exact ⟨v, vm₁, B, X₁.warmed, X', hpost, fun target h => hstep₁ _ fun acts => by rw [doInvoke_state]; exact hsteps.trans h⟩
abbrev vx_CVW (R : Room) (s : State) (args : Array Value) (own C : String) (index : Nat) (y : MethodName) (bytes : ByteArray) (maxL : Nat) (ret : Option FieldType) (hh : List (Nat × Nat × Nat × Nat)) (ws : List Cond) (rm : Room) (mc ms n : Nat) : Prop :=
  (rm.cells = mc ∧ rm.slots = ms ∧ rm.frames + 1 ≤ R.frames ∧ 8 + (maxL + 11) + rm.locals ≤ R.locals ∧ (∀ w ∈ ws, ∀ (a' : Array Value) (U : State), s.WarmedH U.vm → w.before a' U = true) ∧ Cond.codeWith y bytes maxL ret hh ∈ ws) ∧
  (Cond.codeWith y bytes maxL ret hh).before args s = true ∧ (Cond.initialized y.cls).before args s = true ∧ (y.cls ≠ "java/lang/invoke/MethodHandle" ∧ y.cls ≠ "java/lang/invoke/VarHandle") ∧
  (∀ sig, parseMethodDescriptor y.desc = some sig → n = sig.parameters.length) ∧ (Cond.methodLink own index y).before args s = true ∧ (Cond.instanceMethod y).before args s = true ∧ (Cond.selects C y y).before args s = true
theorem vx_cwVW {own C : String} {index maxL mc ms : Nat} {y : MethodName} {bytes : ByteArray} {ret : Option FieldType} {hh : List (Nat × Nat × Nat × Nat)} {Ts ws ws' : List Cond} {rm : Room} (n : Nat) (ht : ∀ w ∈ Ts, w.before args s = true) (hT : GoodIn Ts (wsV own index C y ws)) (hw : ws = Cond.codeWith y bytes maxL ret hh :: ws') (hrc : rm.cells = mc) (hrs : rm.slots = ms)
    (hd : y.cls = C ∧ y.cls ≠ "java/lang/invoke/MethodHandle" ∧ y.cls ≠ "java/lang/invoke/VarHandle" ∧ (parseMethodDescriptor y.desc).map (fun d => d.parameters.length) = some n) (hR : rm.frames + 1 ≤ R.frames ∧ 8 + (maxL + 11) + rm.locals ≤ R.locals) :
    vx_CVW R s args own C index y bytes maxL ret hh ws rm mc ms n := by
  obtain ⟨hC, hd⟩ := hd
  subst hC
  have ok : ∀ w ∈ wsV own index y.cls y ws, w.before args s = true := fun w h => ht w (hT w h).1
  have hG : GoodIn Ts ws := fun w h => hT w (by unfold wsV; exact List.mem_append_right _ h)
  have hc : Cond.codeWith y bytes maxL ret hh ∈ ws := by rw [hw]; exact List.mem_cons_self
  refine ⟨⟨hrc, hrs, hR.1, hR.2, pay_in ht hG, hc⟩, ht _ (hG _ hc).1, ok _ (by simp [wsV]), ⟨hd.1, hd.2.1⟩, fun sig h => ?_, ok _ (by simp [wsV]), ok _ (by simp [wsV]), ok _ (by simp [wsV])⟩
  have h2 := hd.2.2
  rw [h] at h2
  exact (Option.some.inj h2).symm
theorem vx_runVW {y : MethodName} {bytes cc : ByteArray} {maxL nL mc ms n index : Nat} {ret : Option FieldType} {hh : List (Nat × Nat × Nat × Nat)} {ws : List Cond} {rm : Room} {Pc : Array Value → State → Prop} {Qc : Array Value → State → Outcome → State → Prop} {free : Addr → Prop} {Ts : List Cond} {own C : String} {b : Addr} {As rest : List Value} {g : JFrame}
    (S : CallFix p m c cc nL s args Ts own) (hM : Met l y ws rm Pc Qc mc ms free) (cw : vx_CVW R s args own C index y bytes maxL ret hh ws rm mc ms n) (hp : PreV s H C b Pc As)
    (hg : g.method = m) (hn : As.length = n) (hsize : g.locals.size = nL) (hstack : g.stack = As.reverse ++ .ref b :: rest) (hW : 2 * g.monitorRoom + (rest.map fun v => v.category).sum ≤ 8) (hdg : decode cc g.pc = .ok (.invokevirtual index, 3)) (hf : cells + mc ≤ R.cells ∧ slots + ms ≤ R.slots) :
    va_Run p l e R s m args below meth c H locs cells slots mc ms g rest (Qc (Value.ref b :: As).toArray) free := by
  obtain ⟨⟨hrc, hrs, hfr, hlo, hws, hcw⟩, hcode, hini, hy, hlen, hl, hin, hse⟩ := cw
  have hK : Back l R p e below s args y 3 8 (PreOf R mc ms Pc) (PostOf Qc mc ms free) := va_backW (hh := hh) (bytes := bytes) (maxL := maxL) (ret := ret) hM hp.1 hrc hrs hfr hlo hws hcw (fun a' U hW => word_at hW (Or.inl (by first | rfl | simp [Cond.onTables, Cond.keeps, Cond.steady])) hini)
  obtain ⟨hx, hb, hml, ho, -⟩ := S
  obtain ⟨-, ⟨cellB, hcB, hoB, hclB⟩, hPc⟩ := hp
  intro T hT X
  obtain ⟨v, vm₁, ⟨U', l2, c2, s2⟩, hW₁, X', ⟨g', mk, t, L, e1, e2, hq, h1, hL, h2, h3⟩, st⟩ := vx_callVW X hx (C := C) (hh := hh) (bytes := bytes) (maxL := maxL) (ret := ret) ho hl hin hse hcode hy hK (by rw [hT]; exact hcB) hoB hclB hg (hsize.trans hml.symm) (argsL := As) (rest := rest) (fun sig h => hn.trans (hlen sig h)) hstack hW (by rw [hb]; exact hdg)
    (fun vm₁ hW₁ => ⟨hf.1, hf.2, hPc (T.setVm vm₁) hT hW₁⟩)
  dsimp only [Pt.U, Pt.locs, Pt.cells, Pt.slots] at X' e1 e2 h1 h2 h3 st
  subst h1; subst h2; subst h3
  exact ⟨v, (T.setVm vm₁).calling g' mk (Value.ref b :: As).toArray, t, U', L, hT, X', hL, e1, e2, hq, st⟩
section
variable {y : MethodName} {bytes cc : ByteArray} {maxL nL mc ms n index : Nat} {ret : Option FieldType} {ws : List Cond} {rm : Room} {Pc : Array Value → State → Prop} {Qc : Array Value → State → Outcome → State → Prop} {XC : String → State → State → Prop} {free : Addr → Prop} {Ts : List Cond} {own C : String} {b : Addr} {As rest : List Value} {g : JFrame}
theorem vx_runVX {hh : List (Nat × Nat × Nat × Nat)} (S : CallFix p m c cc nL s args Ts own) (hM : vx_Met l y ws rm Pc Qc XC mc ms free) (cw : vx_CVW R s args own C index y bytes maxL ret hh ws rm mc ms n) (hp : PreV s H C b Pc As)
    (hg : g.method = m) (hn : As.length = n) (hsize : g.locals.size = nL) (hstack : g.stack = As.reverse ++ .ref b :: rest) (hW : 2 * g.monitorRoom + (rest.map fun v => v.category).sum ≤ 8) (hdg : decode cc g.pc = .ok (.invokevirtual index, 3)) (hf : cells + mc ≤ R.cells ∧ slots + ms ≤ R.slots) :
    vx_Run p l e R s m args below meth c H locs cells slots mc ms g rest (Qc (Value.ref b :: As).toArray) XC free := by
  obtain ⟨⟨hrc, hrs, hfr, hlo, hws, hcw⟩, hcode, hini, hy, hlen, hl, hin, hse⟩ := cw
  have hK : vx_Back l R p e below s args y 3 8 (PreOf R mc ms Pc) (PostOf Qc mc ms free) (vx_Post XC mc ms free) := vx_backW (hh := hh) (bytes := bytes) (maxL := maxL) (ret := ret) hM hp.1 hrc hrs hfr hlo hws hcw (fun a' U hW => word_at hW (Or.inl (by first | rfl | simp [Cond.onTables, Cond.keeps, Cond.steady])) hini)
  obtain ⟨hx, hb, hml, ho, -⟩ := S
  obtain ⟨-, ⟨cellB, hcB, hoB, hclB⟩, hPc⟩ := hp
  intro T hT X
  rcases vx_callVX X hx (C := C) (hh := hh) (bytes := bytes) (maxL := maxL) (ret := ret) ho hl hin hse hcode hy hK (by rw [hT]; exact hcB) hoB hclB hg (hsize.trans hml.symm) (argsL := As) (rest := rest) (fun sig h => hn.trans (hlen sig h)) hstack hW (by rw [hb]; exact hdg)
    (fun vm₁ hW₁ => ⟨hf.1, hf.2, hPc (T.setVm vm₁) hT hW₁⟩) with ⟨v, vm₁, ⟨U', l2, c2, s2⟩, hW₁, X', ⟨g', mk, t, L, e1, e2, hq, h1, hL, h2, h3⟩, st⟩ | ⟨q, vm₁, ⟨U', l2, c2, s2⟩, hW₁, X', ⟨g', mk, t, L, E, ce, e1, e2, hq, hce, hcv, hcl, h1, hL, h2, h3⟩, st⟩
  · dsimp only [Pt.U, Pt.locs, Pt.cells, Pt.slots] at X' e1 e2 h1 h2 h3 st
    subst h1; subst h2; subst h3
    exact Or.inl ⟨v, (T.setVm vm₁).calling g' mk (Value.ref b :: As).toArray, t, U', L, hT, X', hL, e1, e2, hq, st⟩
  · dsimp only [Pt.U, Pt.locs, Pt.cells, Pt.slots] at X' e1 e2 h1 h2 h3 st hcl
    subst h1; subst h2; subst h3
    exact Or.inr ⟨q, (T.setVm vm₁).calling g' mk (Value.ref b :: As).toArray, t, U', L, E, ce, hT, X', hL, e1, e2, hq, hce, hcv, vx_cls hW₁ hcl, st⟩
theorem vx_runSX {hh : List (Nat × Nat × Nat × Nat)} (S : CallFix p m c cc nL s args Ts own) (hM : vx_Met l y ws rm Pc Qc XC mc ms free) (cw : vx_CSW R s args own index y bytes maxL ret hh ws rm mc ms n) (hp : PreS s H Pc As)
    (hg : g.method = m) (hn : As.length = n) (hsize : g.locals.size = nL) (hstack : g.stack = As.reverse ++ rest) (hW : 2 * g.monitorRoom + (rest.map fun v => v.category).sum ≤ 8) (hdg : decode cc g.pc = .ok (.invokestatic index, 3)) (hf : cells + mc ≤ R.cells ∧ slots + ms ≤ R.slots) :
    vx_Run p l e R s m args below meth c H locs cells slots mc ms g rest (Qc As.toArray) XC free := by
  obtain ⟨⟨hrc, hrs, hfr, hlo, hws, hcw⟩, hcode, hini, hy, hlen, hl, hstt⟩ := cw
  have hK : vx_Back l R p e below s args y 3 8 (PreOf R mc ms Pc) (PostOf Qc mc ms free) (vx_Post XC mc ms free) := vx_backW (hh := hh) (bytes := bytes) (maxL := maxL) (ret := ret) hM hp.1 hrc hrs hfr hlo hws hcw (fun a' U hW => word_at hW (Or.inl (by first | rfl | simp [Cond.onTables, Cond.keeps, Cond.steady])) hini)
  obtain ⟨hx, hb, hml, ho, -⟩ := S
  intro T hT X
  rcases vx_callSX X hx (hh := hh) (bytes := bytes) (maxL := maxL) (ret := ret) ho hl hstt hini hcode hy hK hg (hsize.trans hml.symm) (argsL := As) (rest := rest) (fun sig h => hn.trans (hlen sig h)) hstack hW (by rw [hb]; exact hdg)
    (fun vm₁ hW₁ => ⟨hf.1, hf.2, hp.2 (T.setVm vm₁) hT hW₁⟩) with ⟨v, vm₁, ⟨U', l2, c2, s2⟩, hW₁, X', ⟨g', mk, t, L, e1, e2, hq, h1, hL, h2, h3⟩, st⟩ | ⟨q, vm₁, ⟨U', l2, c2, s2⟩, hW₁, X', ⟨g', mk, t, L, E, ce, e1, e2, hq, hce, hcv, hcl, h1, hL, h2, h3⟩, st⟩
  · dsimp only [Pt.U, Pt.locs, Pt.cells, Pt.slots] at X' e1 e2 h1 h2 h3 st
    subst h1; subst h2; subst h3
    exact Or.inl ⟨v, (T.setVm vm₁).calling g' mk As.toArray, t, U', L, hT, X', hL, e1, e2, hq, st⟩
  · dsimp only [Pt.U, Pt.locs, Pt.cells, Pt.slots] at X' e1 e2 h1 h2 h3 st hcl
    subst h1; subst h2; subst h3
    exact Or.inr ⟨q, (T.setVm vm₁).calling g' mk As.toArray, t, U', L, E, ce, hT, X', hL, e1, e2, hq, hce, hcv, vx_cls hW₁ hcl, st⟩
end
end VXH
theorem vx_ofWH {l : Launch} {y : MethodName} {ws ws' : List Cond} {rm : Room} {Pc : Array Value → State → Prop} {Qc : Array Value → State → Outcome → State → Prop} {XC : String → State → State → Prop} {mc ms : Nat} {free : Addr → Prop} {cc : ByteArray} {maxL : Nat} {ret : Option FieldType} {hh : List (Nat × Nat × Nat × Nat)}
    (hy : plainName y.cls = true) (hw : ws = Cond.codeWith y cc maxL ret hh :: ws')
    (body : ∀ p e s m args below meth c s₁, BodyLoose p l y (headSpec ws rm) cc maxL ret e s m args below meth c s₁ → c.maxLocals = maxL → Pc args s →
      W p l e (headSpec ws rm).room s m args below meth c s.heap [] 0 0 (vx_MQ below Qc XC args s mc ms free) (entryFrame m args maxL)) : vx_Met l y ws rm Pc Qc XC mc ms free := by
  refine MetFree.of_bodyS (code := cc) (maxLocals := maxL) (ret := ret) hy ?_ ?_
  · intro args s m h hn
    obtain ⟨m9, meth, c, hn9, h1, h2, h3, h4, -, h5, h6, -⟩ := Cond.codeWith_spec (atoms_spec (ws := ws) h _ (by rw [hw]; exact List.mem_cons_self))
    cases hn.symm.trans hn9
    exact ⟨meth, c, h1, h2, h3, h4, h5, h6⟩
  · intro p e s m args below meth c s₁ B hml hP _
    have hh0 : s₁.heap = s.heap := by rw [B.state]; rfl
    obtain ⟨t, a1, o, b1, b2, b3⟩ := body p e s m args below meth c s₁ B hml hP s₁ hh0 (Stand.of_body B)
    exact ⟨t, o, a1, b1, b2, b3⟩
/-! ===== END ===== -/
end
section
/-! ===== BEGIN printed: names, fields, word lists, decode rows ===== -/
def RX0 : String := "DomainKeys"
def TX0 : u_T := fun k => match k with
  | 0 => ("DomainKeys", "candidateP", "I", false)
  | 1 => ("DomainKeys", "candidateQ", "I", false)
  | 2 => ("DomainKeys", "candidateSeed", "J", false)
  | 3 => ("DomainKeys", "candidateCounter", "I", false)
  | 4 => ("DomainKeys", "domainP", "I", false)
  | 5 => ("DomainKeys", "domainQ", "I", false)
  | 6 => ("DomainKeys", "domainG", "I", false)
  | 7 => ("DomainKeys", "secrets", "[I", true)
  | _ => ("DomainKeys", "publicNumbers", "[I", true)
def tyX0 : Nat → FieldType := fun k => match k with
  | 0 => .int
  | 1 => .int
  | 2 => .long
  | 3 => .int
  | 4 => .int
  | 5 => .int
  | 6 => .int
  | 7 => .array .int
  | _ => .array .int
abbrev wsX00 : List Cond := u_ws RX0 TX0 9
theorem nmX0 : ∀ a, a < 9 → ∀ b, b < 9 → a ≠ b → (TX0 a).2.1 ≠ (TX0 b).2.1 := by decide +kernel
theorem tyX0_ok : ∀ k, k < 9 → parseFieldDescriptor (TX0 k).2.2.1 = some (tyX0 k) := by decide +kernel
abbrev cX0_init : ByteArray := prog_1_method_1_code
def yX0_init : MethodName := ⟨RX0, "<init>", "()V"⟩
abbrev cX0_generate : ByteArray := prog_1_method_2_code
def yX0_generate : MethodName := ⟨RX0, "generate", "(J)I"⟩
abbrev cX0_candidate : ByteArray := prog_1_method_3_code
def yX0_candidate : MethodName := ⟨RX0, "candidate", "(I)J"⟩
abbrev cX0_generator : ByteArray := prog_1_method_4_code
def yX0_generator : MethodName := ⟨RX0, "generator", "(I)I"⟩
abbrev cX0_valid : ByteArray := prog_1_method_5_code
def yX0_valid : MethodName := ⟨RX0, "valid", "(IIJI)Z"⟩
abbrev cX0_adopt : ByteArray := prog_1_method_6_code
def yX0_adopt : MethodName := ⟨RX0, "adopt", "(III)V"⟩
abbrev cX0_domain : ByteArray := prog_1_method_7_code
def yX0_domain : MethodName := ⟨RX0, "domain", "(I)I"⟩
abbrev cX0_key : ByteArray := prog_1_method_8_code
def yX0_key : MethodName := ⟨RX0, "key", "(II)I"⟩
abbrev cX0_publicNumber : ByteArray := prog_1_method_9_code
def yX0_publicNumber : MethodName := ⟨RX0, "publicNumber", "(I)I"⟩
abbrev cX0_forget : ByteArray := prog_1_method_10_code
def yX0_forget : MethodName := ⟨RX0, "forget", "(I)V"⟩
abbrev cX0_fits : ByteArray := prog_1_method_11_code
def yX0_fits : MethodName := ⟨RX0, "fits", "(I)Z"⟩
abbrev cX0_digest : ByteArray := prog_1_method_12_code
def yX0_digest : MethodName := ⟨RX0, "digest", "(J)I"⟩
abbrev cX0_sign : ByteArray := prog_1_method_13_code
def yX0_sign : MethodName := ⟨RX0, "sign", "(IJI)J"⟩
abbrev cX0_verify : ByteArray := prog_1_method_14_code
def yX0_verify : MethodName := ⟨RX0, "verify", "(IJII)Z"⟩
abbrev cX0_agree : ByteArray := prog_1_method_15_code
def yX0_agree : MethodName := ⟨RX0, "agree", "(II)I"⟩
abbrev cX0_requireDomain : ByteArray := prog_1_method_16_code
def yX0_requireDomain : MethodName := ⟨RX0, "requireDomain", "()V"⟩
abbrev cX0_requireKey : ByteArray := prog_1_method_17_code
def yX0_requireKey : MethodName := ⟨RX0, "requireKey", "(I)V"⟩
abbrev cX0_clearSlot : ByteArray := prog_1_method_18_code
def yX0_clearSlot : MethodName := ⟨RX0, "clearSlot", "(I)V"⟩
abbrev cX0_isExponent : ByteArray := prog_1_method_19_code
def yX0_isExponent : MethodName := ⟨RX0, "isExponent", "(I)Z"⟩
abbrev cX0_isPeer : ByteArray := prog_1_method_20_code
def yX0_isPeer : MethodName := ⟨RX0, "isPeer", "(I)Z"⟩
abbrev cX0_generatorAt : ByteArray := prog_1_method_21_code
def yX0_generatorAt : MethodName := ⟨RX0, "generatorAt", "(I)I"⟩
abbrev cX0_isSlot : ByteArray := prog_1_method_22_code
def yX0_isSlot : MethodName := ⟨RX0, "isSlot", "(I)Z"⟩
abbrev cX0_isDomain : ByteArray := prog_1_method_23_code
def yX0_isDomain : MethodName := ⟨RX0, "isDomain", "(III)Z"⟩
abbrev cX0_counterFrom : ByteArray := prog_1_method_24_code
def yX0_counterFrom : MethodName := ⟨RX0, "counterFrom", "(J)I"⟩
abbrev cX0_orderFrom : ByteArray := prog_1_method_25_code
def yX0_orderFrom : MethodName := ⟨RX0, "orderFrom", "(J)I"⟩
abbrev cX0_fieldTry : ByteArray := prog_1_method_26_code
def yX0_fieldTry : MethodName := ⟨RX0, "fieldTry", "(JII)I"⟩
abbrev cX0_isPrime : ByteArray := prog_1_method_27_code
def yX0_isPrime : MethodName := ⟨RX0, "isPrime", "(I)Z"⟩
abbrev cX0_power : ByteArray := prog_1_method_28_code
def yX0_power : MethodName := ⟨RX0, "power", "(III)I"⟩
abbrev cX0_inverse : ByteArray := prog_1_method_29_code
def yX0_inverse : MethodName := ⟨RX0, "inverse", "(II)I"⟩
abbrev cX0_mix : ByteArray := prog_1_method_30_code
def yX0_mix : MethodName := ⟨RX0, "mix", "(JJ)J"⟩
def RX1 : String := "DomainKeysModel"
def TX1 : u_T := fun k => match k with
  | 0 => ("DomainKeysModel", "madeP", "I", false)
  | 1 => ("DomainKeysModel", "madeQ", "I", false)
  | 2 => ("DomainKeysModel", "outcome", "I", false)
  | 3 => ("DomainKeysModel", "hasCandidate", "Z", false)
  | 4 => ("DomainKeysModel", "seed", "J", false)
  | 5 => ("DomainKeysModel", "candidateP", "I", false)
  | 6 => ("DomainKeysModel", "candidateQ", "I", false)
  | 7 => ("DomainKeysModel", "candidateCounter", "I", false)
  | 8 => ("DomainKeysModel", "p", "I", false)
  | 9 => ("DomainKeysModel", "q", "I", false)
  | 10 => ("DomainKeysModel", "g", "I", false)
  | 11 => ("DomainKeysModel", "secrets", "[I", true)
  | _ => ("DomainKeysModel", "thrown", "I", false)
def tyX1 : Nat → FieldType := fun k => match k with
  | 0 => .int
  | 1 => .int
  | 2 => .int
  | 3 => .boolean
  | 4 => .long
  | 5 => .int
  | 6 => .int
  | 7 => .int
  | 8 => .int
  | 9 => .int
  | 10 => .int
  | 11 => .array .int
  | _ => .int
abbrev wsX10 : List Cond := u_ws RX1 TX1 13
theorem nmX1 : ∀ a, a < 13 → ∀ b, b < 13 → a ≠ b → (TX1 a).2.1 ≠ (TX1 b).2.1 := by decide +kernel
theorem tyX1_ok : ∀ k, k < 13 → parseFieldDescriptor (TX1 k).2.2.1 = some (tyX1 k) := by decide +kernel
abbrev cX1_init : ByteArray := prog_3_method_1_code
def yX1_init : MethodName := ⟨RX1, "<init>", "()V"⟩
abbrev cX1_thrown : ByteArray := prog_3_method_2_code
def yX1_thrown : MethodName := ⟨RX1, "thrown", "()I"⟩
abbrev cX1_h : ByteArray := prog_3_method_3_code
def yX1_h : MethodName := ⟨RX1, "h", "(JJ)J"⟩
abbrev cX1_prime : ByteArray := prog_3_method_4_code
def yX1_prime : MethodName := ⟨RX1, "prime", "(I)Z"⟩
abbrev cX1_power : ByteArray := prog_3_method_5_code
def yX1_power : MethodName := ⟨RX1, "power", "(JJJ)J"⟩
abbrev cX1_make : ByteArray := prog_3_method_6_code
def yX1_make : MethodName := ⟨RX1, "make", "(J)V"⟩
abbrev cX1_generate : ByteArray := prog_3_method_7_code
def yX1_generate : MethodName := ⟨RX1, "generate", "(J)I"⟩
abbrev cX1_candidate : ByteArray := prog_3_method_8_code
def yX1_candidate : MethodName := ⟨RX1, "candidate", "(I)J"⟩
abbrev cX1_generator : ByteArray := prog_3_method_9_code
def yX1_generator : MethodName := ⟨RX1, "generator", "(I)I"⟩
abbrev cX1_valid : ByteArray := prog_3_method_10_code
def yX1_valid : MethodName := ⟨RX1, "valid", "(IIJI)Z"⟩
abbrev cX1_adopt : ByteArray := prog_3_method_11_code
def yX1_adopt : MethodName := ⟨RX1, "adopt", "(III)V"⟩
abbrev cX1_domain : ByteArray := prog_3_method_12_code
def yX1_domain : MethodName := ⟨RX1, "domain", "(I)I"⟩
abbrev cX1_hasKey : ByteArray := prog_3_method_13_code
def yX1_hasKey : MethodName := ⟨RX1, "hasKey", "(I)Z"⟩
abbrev cX1_key : ByteArray := prog_3_method_14_code
def yX1_key : MethodName := ⟨RX1, "key", "(II)I"⟩
abbrev cX1_publicNumber : ByteArray := prog_3_method_15_code
def yX1_publicNumber : MethodName := ⟨RX1, "publicNumber", "(I)I"⟩
abbrev cX1_forget : ByteArray := prog_3_method_16_code
def yX1_forget : MethodName := ⟨RX1, "forget", "(I)V"⟩
abbrev cX1_fits : ByteArray := prog_3_method_17_code
def yX1_fits : MethodName := ⟨RX1, "fits", "(I)Z"⟩
abbrev cX1_digestOf : ByteArray := prog_3_method_18_code
def yX1_digestOf : MethodName := ⟨RX1, "digestOf", "(J)J"⟩
abbrev cX1_digest : ByteArray := prog_3_method_19_code
def yX1_digest : MethodName := ⟨RX1, "digest", "(J)I"⟩
abbrev cX1_sign : ByteArray := prog_3_method_20_code
def yX1_sign : MethodName := ⟨RX1, "sign", "(IJI)J"⟩
abbrev cX1_verify : ByteArray := prog_3_method_21_code
def yX1_verify : MethodName := ⟨RX1, "verify", "(IJII)Z"⟩
abbrev cX1_agree : ByteArray := prog_3_method_22_code
def yX1_agree : MethodName := ⟨RX1, "agree", "(II)I"⟩
def RJ0 : String := "java/lang/String"
def TJ0 : u_T := fun k => match k with
  | _ => ("", "", "", false)
def tyJ0 : Nat → FieldType := fun k => match k with
  | _ => .int
abbrev wsJ00 : List Cond := u_ws RJ0 TJ0 0
theorem nmJ0 : ∀ a, a < 0 → ∀ b, b < 0 → a ≠ b → (TJ0 a).2.1 ≠ (TJ0 b).2.1 := by decide +kernel
theorem tyJ0_ok : ∀ k, k < 0 → parseFieldDescriptor (TJ0 k).2.2.1 = some (tyJ0 k) := by decide +kernel
def RL : String := "DomainKeysLaw"
abbrev cL_generator : ByteArray := method_3_code
def yL_generator : MethodName := ⟨RL, "generator", "(LDomainKeys;I[J)I"⟩
abbrev cL_adopt : ByteArray := method_4_code
def yL_adopt : MethodName := ⟨RL, "adopt", "(LDomainKeys;III)I"⟩
abbrev cL_key : ByteArray := method_5_code
def yL_key : MethodName := ⟨RL, "key", "(LDomainKeys;II[J)I"⟩
abbrev cL_publicNumber : ByteArray := method_6_code
def yL_publicNumber : MethodName := ⟨RL, "publicNumber", "(LDomainKeys;I[J)I"⟩
abbrev cL_forget : ByteArray := method_7_code
def yL_forget : MethodName := ⟨RL, "forget", "(LDomainKeys;I)I"⟩
abbrev cL_fits : ByteArray := method_8_code
def yL_fits : MethodName := ⟨RL, "fits", "(LDomainKeys;I[J)I"⟩
abbrev cL_sign : ByteArray := method_9_code
def yL_sign : MethodName := ⟨RL, "sign", "(LDomainKeys;IJI[J)I"⟩
abbrev cL_verify : ByteArray := method_10_code
def yL_verify : MethodName := ⟨RL, "verify", "(LDomainKeys;IJII[J)I"⟩
abbrev cL_agree : ByteArray := method_11_code
def yL_agree : MethodName := ⟨RL, "agree", "(LDomainKeys;II[J)I"⟩
abbrev cL_law : ByteArray := code
def yL_law : MethodName := ⟨RL, "law", "([I)Z"⟩
def wsX0_init : List Cond := .code yX0_init cX0_init 1 none :: ([.methodLink RX0 1 objectInit, .instanceMethod objectInit, .code objectInit ⟨#[0xb1]⟩ 1 none, .arrayClass .int, .fieldLink RX0 9 "DomainKeys" "secrets" "[I", .fieldLink RX0 13 "DomainKeys" "publicNumbers" "[I"] ++ wsX00)
def wsX0_mix : List Cond := .code yX0_mix cX0_mix 6 (some .long) :: ([.constantLong RX0 139 (1442695040888963407), .constantLong RX0 141 (6364136223846793005), .constantLong RX0 143 (2862933555777941757)])
def wsX0_orderFrom : List Cond := .code yX0_orderFrom cX0_orderFrom 2 (some .int) :: ([.methodLink RX0 105 yX0_mix, .static yX0_mix, .initialized RX0, .code yX0_mix cX0_mix 6 (some .long), .constantLong RX0 139 (1442695040888963407), .constantLong RX0 141 (6364136223846793005), .constantLong RX0 143 (2862933555777941757)])
def wsX0_isPrime : List Cond := .code yX0_isPrime cX0_isPrime 2 (some .boolean) :: ([.constant RX0 138 (46340)])
def wsX0_fieldTry : List Cond := .code yX0_fieldTry cX0_fieldTry 6 (some .int) :: ([.constantLong RX0 136 (1073741824), .methodLink RX0 105 yX0_mix, .static yX0_mix, .initialized RX0, .code yX0_mix cX0_mix 6 (some .long), .constantLong RX0 139 (1442695040888963407), .constantLong RX0 141 (6364136223846793005), .constantLong RX0 143 (2862933555777941757)])
def wsX0_counterFrom : List Cond := .code yX0_counterFrom cX0_counterFrom 5 (some .int) :: ([.constant RX0 135 (1073741824), .methodLink RX0 20 yX0_orderFrom, .static yX0_orderFrom, .initialized RX0, .code yX0_orderFrom cX0_orderFrom 2 (some .int), .methodLink RX0 105 yX0_mix, .static yX0_mix, .code yX0_mix cX0_mix 6 (some .long), .constantLong RX0 139 (1442695040888963407), .constantLong RX0 141 (6364136223846793005), .constantLong RX0 143 (2862933555777941757), .methodLink RX0 132 yX0_isPrime, .static yX0_isPrime, .code yX0_isPrime cX0_isPrime 2 (some .boolean), .constant RX0 138 (46340), .methodLink RX0 27 yX0_fieldTry, .static yX0_fieldTry, .code yX0_fieldTry cX0_fieldTry 6 (some .int), .constantLong RX0 136 (1073741824)])
def wsX0_generate_r1 : List Cond := [Cond.fieldLink RX0 23 "DomainKeys" "candidateQ" "I", Cond.fieldLink RX0 31 "DomainKeys" "candidateP" "I", Cond.fieldLink RX0 34 "DomainKeys" "candidateSeed" "J", Cond.fieldLink RX0 38 "DomainKeys" "candidateCounter" "I", Cond.methodLink RX0 16 yX0_counterFrom, Cond.static yX0_counterFrom, Cond.initialized RX0, Cond.code yX0_counterFrom cX0_counterFrom 5 (some .int), Cond.constant RX0 135 (1073741824), Cond.methodLink RX0 20 yX0_orderFrom, Cond.static yX0_orderFrom, Cond.code yX0_orderFrom cX0_orderFrom 2 (some .int), Cond.methodLink RX0 105 yX0_mix, Cond.static yX0_mix, Cond.code yX0_mix cX0_mix 6 (some .long), Cond.constantLong RX0 139 (1442695040888963407), Cond.constantLong RX0 141 (6364136223846793005), Cond.constantLong RX0 143 (2862933555777941757), Cond.methodLink RX0 132 yX0_isPrime, Cond.static yX0_isPrime, Cond.code yX0_isPrime cX0_isPrime 2 (some .boolean), Cond.constant RX0 138 (46340), Cond.methodLink RX0 27 yX0_fieldTry, Cond.static yX0_fieldTry]
def wsX0_generate_r2 : List Cond := [Cond.code yX0_fieldTry cX0_fieldTry 6 (some .int), Cond.constantLong RX0 136 (1073741824)]
def wsX0_generate : List Cond := .code yX0_generate cX0_generate 4 (some .int) :: ((wsX0_generate_r1 ++ wsX0_generate_r2) ++ wsX00)
def wsX0_candidate : List Cond := .code yX0_candidate cX0_candidate 2 (some .long) :: ([.fieldLink RX0 31 "DomainKeys" "candidateP" "I", .fieldLink RX0 23 "DomainKeys" "candidateQ" "I", .fieldLink RX0 34 "DomainKeys" "candidateSeed" "J", .fieldLink RX0 38 "DomainKeys" "candidateCounter" "I"] ++ wsX00)
def wsX0_power : List Cond := .code yX0_power cX0_power 6 (some .int) :: ([])
def wsX0_generatorAt : List Cond := .code yX0_generatorAt cX0_generatorAt 8 (some .int) :: ([.fieldLink RX0 34 "DomainKeys" "candidateSeed" "J", .fieldLink RX0 31 "DomainKeys" "candidateP" "I", .fieldLink RX0 23 "DomainKeys" "candidateQ" "I", .methodLink RX0 105 yX0_mix, .static yX0_mix, .initialized RX0, .code yX0_mix cX0_mix 6 (some .long), .constantLong RX0 139 (1442695040888963407), .constantLong RX0 141 (6364136223846793005), .constantLong RX0 143 (2862933555777941757), .methodLink RX0 93 yX0_power, .static yX0_power, .code yX0_power cX0_power 6 (some .int)] ++ wsX00)
def wsX0_generator : List Cond := .code yX0_generator cX0_generator 2 (some .int) :: ([.classLink RX0 41 "java/lang/IllegalStateException", .initialized "java/lang/IllegalStateException", .classLink RX0 48 "java/lang/IllegalArgumentException", .initialized "java/lang/IllegalArgumentException", .fieldLink RX0 31 "DomainKeys" "candidateP" "I", .methodLink RX0 53 yX0_generatorAt, .instanceMethod yX0_generatorAt, .selects RX0 yX0_generatorAt yX0_generatorAt, .initialized RX0, .code yX0_generatorAt cX0_generatorAt 8 (some .int), .fieldLink RX0 34 "DomainKeys" "candidateSeed" "J", .fieldLink RX0 23 "DomainKeys" "candidateQ" "I", .methodLink RX0 105 yX0_mix, .static yX0_mix, .code yX0_mix cX0_mix 6 (some .long), .constantLong RX0 139 (1442695040888963407), .constantLong RX0 141 (6364136223846793005), .constantLong RX0 143 (2862933555777941757), .methodLink RX0 93 yX0_power, .static yX0_power, .code yX0_power cX0_power 6 (some .int)] ++ wsX00 ++ (vx_atS RX0 45 "java/lang/IllegalStateException" ["java/lang/RuntimeException", "java/lang/Exception"]).filter goodWord ++ (vx_atS RX0 52 "java/lang/IllegalArgumentException" ["java/lang/RuntimeException", "java/lang/Exception"]).filter goodWord)
def wsX0_valid : List Cond := .code yX0_valid cX0_valid 6 (some .boolean) :: ([.methodLink RX0 20 yX0_orderFrom, .static yX0_orderFrom, .initialized RX0, .code yX0_orderFrom cX0_orderFrom 2 (some .int), .methodLink RX0 105 yX0_mix, .static yX0_mix, .code yX0_mix cX0_mix 6 (some .long), .constantLong RX0 139 (1442695040888963407), .constantLong RX0 141 (6364136223846793005), .constantLong RX0 143 (2862933555777941757), .methodLink RX0 16 yX0_counterFrom, .static yX0_counterFrom, .code yX0_counterFrom cX0_counterFrom 5 (some .int), .constant RX0 135 (1073741824), .methodLink RX0 132 yX0_isPrime, .static yX0_isPrime, .code yX0_isPrime cX0_isPrime 2 (some .boolean), .constant RX0 138 (46340), .methodLink RX0 27 yX0_fieldTry, .static yX0_fieldTry, .code yX0_fieldTry cX0_fieldTry 6 (some .int), .constantLong RX0 136 (1073741824)])
def wsX0_isDomain : List Cond := .code yX0_isDomain cX0_isDomain 3 (some .boolean) :: ([.methodLink RX0 132 yX0_isPrime, .static yX0_isPrime, .initialized RX0, .code yX0_isPrime cX0_isPrime 2 (some .boolean), .constant RX0 138 (46340), .methodLink RX0 93 yX0_power, .static yX0_power, .code yX0_power cX0_power 6 (some .int)])
def wsX0_clearSlot : List Cond := .code yX0_clearSlot cX0_clearSlot 2 none :: ([.fieldLink RX0 9 "DomainKeys" "secrets" "[I", .fieldLink RX0 13 "DomainKeys" "publicNumbers" "[I"] ++ wsX00)
def wsX0_adopt : List Cond := .code yX0_adopt cX0_adopt 5 none :: ([.classLink RX0 48 "java/lang/IllegalArgumentException", .initialized "java/lang/IllegalArgumentException", .fieldLink RX0 63 "DomainKeys" "domainP" "I", .fieldLink RX0 66 "DomainKeys" "domainQ" "I", .fieldLink RX0 69 "DomainKeys" "domainG" "I", .methodLink RX0 57 yX0_isDomain, .static yX0_isDomain, .initialized RX0, .code yX0_isDomain cX0_isDomain 3 (some .boolean), .methodLink RX0 132 yX0_isPrime, .static yX0_isPrime, .code yX0_isPrime cX0_isPrime 2 (some .boolean), .constant RX0 138 (46340), .methodLink RX0 93 yX0_power, .static yX0_power, .code yX0_power cX0_power 6 (some .int), .methodLink RX0 72 yX0_clearSlot, .instanceMethod yX0_clearSlot, .selects RX0 yX0_clearSlot yX0_clearSlot, .code yX0_clearSlot cX0_clearSlot 2 none, .fieldLink RX0 9 "DomainKeys" "secrets" "[I", .fieldLink RX0 13 "DomainKeys" "publicNumbers" "[I"] ++ wsX00 ++ (vx_atS RX0 52 "java/lang/IllegalArgumentException" ["java/lang/RuntimeException", "java/lang/Exception"]).filter goodWord)
def wsX0_domain : List Cond := .code yX0_domain cX0_domain 2 (some .int) :: ([.fieldLink RX0 63 "DomainKeys" "domainP" "I", .fieldLink RX0 66 "DomainKeys" "domainQ" "I", .fieldLink RX0 69 "DomainKeys" "domainG" "I"] ++ wsX00)
def wsX0_requireDomain : List Cond := .code yX0_requireDomain cX0_requireDomain 1 none :: ([.classLink RX0 41 "java/lang/IllegalStateException", .initialized "java/lang/IllegalStateException", .fieldLink RX0 63 "DomainKeys" "domainP" "I"] ++ wsX00 ++ (vx_atS RX0 45 "java/lang/IllegalStateException" ["java/lang/RuntimeException", "java/lang/Exception"]).filter goodWord)
def wsX0_isSlot : List Cond := .code yX0_isSlot cX0_isSlot 1 (some .boolean) :: ([])
def wsX0_isExponent : List Cond := .code yX0_isExponent cX0_isExponent 2 (some .boolean) :: ([.fieldLink RX0 66 "DomainKeys" "domainQ" "I"] ++ wsX00)
def wsX0_key_r1 : List Cond := [Cond.classLink RX0 83 "java/lang/IndexOutOfBoundsException", Cond.initialized "java/lang/IndexOutOfBoundsException", Cond.classLink RX0 48 "java/lang/IllegalArgumentException", Cond.initialized "java/lang/IllegalArgumentException", Cond.fieldLink RX0 9 "DomainKeys" "secrets" "[I", Cond.fieldLink RX0 13 "DomainKeys" "publicNumbers" "[I", Cond.fieldLink RX0 69 "DomainKeys" "domainG" "I", Cond.fieldLink RX0 63 "DomainKeys" "domainP" "I", Cond.methodLink RX0 76 yX0_requireDomain, Cond.instanceMethod yX0_requireDomain, Cond.selects RX0 yX0_requireDomain yX0_requireDomain, Cond.initialized RX0, Cond.code yX0_requireDomain cX0_requireDomain 1 none, Cond.classLink RX0 41 "java/lang/IllegalStateException", Cond.initialized "java/lang/IllegalStateException", Cond.methodLink RX0 79 yX0_isSlot, Cond.static yX0_isSlot, Cond.code yX0_isSlot cX0_isSlot 1 (some .boolean), Cond.methodLink RX0 88 yX0_isExponent, Cond.instanceMethod yX0_isExponent, Cond.selects RX0 yX0_isExponent yX0_isExponent, Cond.code yX0_isExponent cX0_isExponent 2 (some .boolean), Cond.fieldLink RX0 66 "DomainKeys" "domainQ" "I", Cond.methodLink RX0 93 yX0_power]
def wsX0_key_r2 : List Cond := [Cond.static yX0_power, Cond.code yX0_power cX0_power 6 (some .int)]
def wsX0_key : List Cond := .code yX0_key cX0_key 3 (some .int) :: ((wsX0_key_r1 ++ wsX0_key_r2) ++ wsX00 ++ (vx_atS RX0 87 "java/lang/IndexOutOfBoundsException" ["java/lang/RuntimeException", "java/lang/Exception"]).filter goodWord ++ (vx_atS RX0 52 "java/lang/IllegalArgumentException" ["java/lang/RuntimeException", "java/lang/Exception"]).filter goodWord ++ (vx_atS RX0 45 "java/lang/IllegalStateException" ["java/lang/RuntimeException", "java/lang/Exception"]).filter goodWord)
def wsX0_requireKey : List Cond := .code yX0_requireKey cX0_requireKey 2 none :: ([.classLink RX0 127 "java/util/NoSuchElementException", .initialized "java/util/NoSuchElementException", .fieldLink RX0 9 "DomainKeys" "secrets" "[I", .methodLink RX0 79 yX0_isSlot, .static yX0_isSlot, .initialized RX0, .code yX0_isSlot cX0_isSlot 1 (some .boolean)] ++ wsX00 ++ (dk_atX RX0 131 "java/util/NoSuchElementException" ["java/lang/RuntimeException", "java/lang/Exception"]).filter goodWord)
def wsX0_publicNumber : List Cond := .code yX0_publicNumber cX0_publicNumber 2 (some .int) :: ([.fieldLink RX0 13 "DomainKeys" "publicNumbers" "[I", .methodLink RX0 97 yX0_requireKey, .instanceMethod yX0_requireKey, .selects RX0 yX0_requireKey yX0_requireKey, .initialized RX0, .code yX0_requireKey cX0_requireKey 2 none, .classLink RX0 127 "java/util/NoSuchElementException", .initialized "java/util/NoSuchElementException", .fieldLink RX0 9 "DomainKeys" "secrets" "[I", .methodLink RX0 79 yX0_isSlot, .static yX0_isSlot, .code yX0_isSlot cX0_isSlot 1 (some .boolean)] ++ wsX00 ++ (dk_atX RX0 131 "java/util/NoSuchElementException" ["java/lang/RuntimeException", "java/lang/Exception"]).filter goodWord)
def wsX0_forget : List Cond := .code yX0_forget cX0_forget 2 none :: ([.methodLink RX0 97 yX0_requireKey, .instanceMethod yX0_requireKey, .selects RX0 yX0_requireKey yX0_requireKey, .initialized RX0, .code yX0_requireKey cX0_requireKey 2 none, .classLink RX0 127 "java/util/NoSuchElementException", .initialized "java/util/NoSuchElementException", .fieldLink RX0 9 "DomainKeys" "secrets" "[I", .methodLink RX0 79 yX0_isSlot, .static yX0_isSlot, .code yX0_isSlot cX0_isSlot 1 (some .boolean), .methodLink RX0 72 yX0_clearSlot, .instanceMethod yX0_clearSlot, .selects RX0 yX0_clearSlot yX0_clearSlot, .code yX0_clearSlot cX0_clearSlot 2 none, .fieldLink RX0 13 "DomainKeys" "publicNumbers" "[I"] ++ wsX00 ++ (dk_atX RX0 131 "java/util/NoSuchElementException" ["java/lang/RuntimeException", "java/lang/Exception"]).filter goodWord)
def wsX0_isPeer : List Cond := .code yX0_isPeer cX0_isPeer 2 (some .boolean) :: ([.fieldLink RX0 63 "DomainKeys" "domainP" "I"] ++ wsX00)
def wsX0_fits : List Cond := .code yX0_fits cX0_fits 2 (some .boolean) :: ([.fieldLink RX0 66 "DomainKeys" "domainQ" "I", .fieldLink RX0 63 "DomainKeys" "domainP" "I", .methodLink RX0 76 yX0_requireDomain, .instanceMethod yX0_requireDomain, .selects RX0 yX0_requireDomain yX0_requireDomain, .initialized RX0, .code yX0_requireDomain cX0_requireDomain 1 none, .classLink RX0 41 "java/lang/IllegalStateException", .initialized "java/lang/IllegalStateException", .methodLink RX0 100 yX0_isPeer, .instanceMethod yX0_isPeer, .selects RX0 yX0_isPeer yX0_isPeer, .code yX0_isPeer cX0_isPeer 2 (some .boolean), .methodLink RX0 93 yX0_power, .static yX0_power, .code yX0_power cX0_power 6 (some .int)] ++ wsX00 ++ (vx_atS RX0 45 "java/lang/IllegalStateException" ["java/lang/RuntimeException", "java/lang/Exception"]).filter goodWord)
def wsX0_digest : List Cond := .code yX0_digest cX0_digest 3 (some .int) :: ([.constantLong RX0 103 (3), .methodLink RX0 105 yX0_mix, .static yX0_mix, .initialized RX0, .code yX0_mix cX0_mix 6 (some .long), .constantLong RX0 139 (1442695040888963407), .constantLong RX0 141 (6364136223846793005), .constantLong RX0 143 (2862933555777941757)])
def wsX0_inverse : List Cond := .code yX0_inverse cX0_inverse 2 (some .int) :: ([.methodLink RX0 93 yX0_power, .static yX0_power, .initialized RX0, .code yX0_power cX0_power 6 (some .int)])
def wsX0_sign_r1 : List Cond := [Cond.classLink RX0 48 "java/lang/IllegalArgumentException", Cond.initialized "java/lang/IllegalArgumentException", Cond.classLink RX0 118 "java/lang/ArithmeticException", Cond.initialized "java/lang/ArithmeticException", Cond.fieldLink RX0 69 "DomainKeys" "domainG" "I", Cond.fieldLink RX0 63 "DomainKeys" "domainP" "I", Cond.fieldLink RX0 66 "DomainKeys" "domainQ" "I", Cond.fieldLink RX0 9 "DomainKeys" "secrets" "[I", Cond.methodLink RX0 97 yX0_requireKey, Cond.instanceMethod yX0_requireKey, Cond.selects RX0 yX0_requireKey yX0_requireKey, Cond.initialized RX0, Cond.code yX0_requireKey cX0_requireKey 2 none, Cond.classLink RX0 127 "java/util/NoSuchElementException", Cond.initialized "java/util/NoSuchElementException", Cond.methodLink RX0 79 yX0_isSlot, Cond.static yX0_isSlot, Cond.code yX0_isSlot cX0_isSlot 1 (some .boolean), Cond.methodLink RX0 88 yX0_isExponent, Cond.instanceMethod yX0_isExponent, Cond.selects RX0 yX0_isExponent yX0_isExponent, Cond.code yX0_isExponent cX0_isExponent 2 (some .boolean), Cond.methodLink RX0 93 yX0_power, Cond.static yX0_power]
def wsX0_sign_r2 : List Cond := [Cond.code yX0_power cX0_power 6 (some .int), Cond.methodLink RX0 111 yX0_digest, Cond.instanceMethod yX0_digest, Cond.selects RX0 yX0_digest yX0_digest, Cond.code yX0_digest cX0_digest 3 (some .int), Cond.constantLong RX0 103 (3), Cond.methodLink RX0 105 yX0_mix, Cond.static yX0_mix, Cond.code yX0_mix cX0_mix 6 (some .long), Cond.constantLong RX0 139 (1442695040888963407), Cond.constantLong RX0 141 (6364136223846793005), Cond.constantLong RX0 143 (2862933555777941757), Cond.methodLink RX0 114 yX0_inverse, Cond.static yX0_inverse, Cond.code yX0_inverse cX0_inverse 2 (some .int)]
def wsX0_sign : List Cond := .code yX0_sign cX0_sign 11 (some .long) :: ((wsX0_sign_r1 ++ wsX0_sign_r2) ++ wsX00 ++ (vx_atS RX0 52 "java/lang/IllegalArgumentException" ["java/lang/RuntimeException", "java/lang/Exception"]).filter goodWord ++ (vx_atS RX0 122 "java/lang/ArithmeticException" ["java/lang/RuntimeException", "java/lang/Exception"]).filter goodWord ++ (dk_atX RX0 131 "java/util/NoSuchElementException" ["java/lang/RuntimeException", "java/lang/Exception"]).filter goodWord)
def wsX0_verify_r1 : List Cond := [Cond.fieldLink RX0 63 "DomainKeys" "domainP" "I", Cond.fieldLink RX0 66 "DomainKeys" "domainQ" "I", Cond.fieldLink RX0 69 "DomainKeys" "domainG" "I", Cond.methodLink RX0 76 yX0_requireDomain, Cond.instanceMethod yX0_requireDomain, Cond.selects RX0 yX0_requireDomain yX0_requireDomain, Cond.initialized RX0, Cond.code yX0_requireDomain cX0_requireDomain 1 none, Cond.classLink RX0 41 "java/lang/IllegalStateException", Cond.initialized "java/lang/IllegalStateException", Cond.methodLink RX0 88 yX0_isExponent, Cond.instanceMethod yX0_isExponent, Cond.selects RX0 yX0_isExponent yX0_isExponent, Cond.code yX0_isExponent cX0_isExponent 2 (some .boolean), Cond.methodLink RX0 114 yX0_inverse, Cond.static yX0_inverse, Cond.code yX0_inverse cX0_inverse 2 (some .int), Cond.methodLink RX0 93 yX0_power, Cond.static yX0_power, Cond.code yX0_power cX0_power 6 (some .int), Cond.methodLink RX0 111 yX0_digest, Cond.instanceMethod yX0_digest, Cond.selects RX0 yX0_digest yX0_digest, Cond.code yX0_digest cX0_digest 3 (some .int)]
def wsX0_verify_r2 : List Cond := [Cond.constantLong RX0 103 (3), Cond.methodLink RX0 105 yX0_mix, Cond.static yX0_mix, Cond.code yX0_mix cX0_mix 6 (some .long), Cond.constantLong RX0 139 (1442695040888963407), Cond.constantLong RX0 141 (6364136223846793005), Cond.constantLong RX0 143 (2862933555777941757)]
def wsX0_verify : List Cond := .code yX0_verify cX0_verify 12 (some .boolean) :: ((wsX0_verify_r1 ++ wsX0_verify_r2) ++ wsX00 ++ (vx_atS RX0 45 "java/lang/IllegalStateException" ["java/lang/RuntimeException", "java/lang/Exception"]).filter goodWord)
def wsX0_agree : List Cond := .code yX0_agree cX0_agree 4 (some .int) :: ([.classLink RX0 48 "java/lang/IllegalArgumentException", .initialized "java/lang/IllegalArgumentException", .classLink RX0 118 "java/lang/ArithmeticException", .initialized "java/lang/ArithmeticException", .fieldLink RX0 9 "DomainKeys" "secrets" "[I", .fieldLink RX0 63 "DomainKeys" "domainP" "I", .methodLink RX0 97 yX0_requireKey, .instanceMethod yX0_requireKey, .selects RX0 yX0_requireKey yX0_requireKey, .initialized RX0, .code yX0_requireKey cX0_requireKey 2 none, .classLink RX0 127 "java/util/NoSuchElementException", .initialized "java/util/NoSuchElementException", .methodLink RX0 79 yX0_isSlot, .static yX0_isSlot, .code yX0_isSlot cX0_isSlot 1 (some .boolean), .methodLink RX0 100 yX0_isPeer, .instanceMethod yX0_isPeer, .selects RX0 yX0_isPeer yX0_isPeer, .code yX0_isPeer cX0_isPeer 2 (some .boolean), .methodLink RX0 93 yX0_power, .static yX0_power, .code yX0_power cX0_power 6 (some .int)] ++ wsX00 ++ (vx_atS RX0 52 "java/lang/IllegalArgumentException" ["java/lang/RuntimeException", "java/lang/Exception"]).filter goodWord ++ (vx_atS RX0 122 "java/lang/ArithmeticException" ["java/lang/RuntimeException", "java/lang/Exception"]).filter goodWord ++ (dk_atX RX0 131 "java/util/NoSuchElementException" ["java/lang/RuntimeException", "java/lang/Exception"]).filter goodWord)
def wsX1_init : List Cond := .code yX1_init cX1_init 1 none :: ([.methodLink RX1 1 objectInit, .instanceMethod objectInit, .code objectInit ⟨#[0xb1]⟩ 1 none, .arrayClass .int, .fieldLink RX1 7 "DomainKeysModel" "secrets" "[I"] ++ wsX10)
def wsX1_thrown : List Cond := .code yX1_thrown cX1_thrown 1 (some .int) :: ([.fieldLink RX1 13 "DomainKeysModel" "thrown" "I"] ++ wsX10)
def wsX1_h : List Cond := .code yX1_h cX1_h 6 (some .long) :: ([.constantLong RX1 17 (1442695040888963407), .constantLong RX1 19 (6364136223846793005), .constantLong RX1 21 (2862933555777941757)])
def wsX1_prime : List Cond := .code yX1_prime cX1_prime 3 (some .boolean) :: ([.constantLong RX1 23 (3), .constantLong RX1 25 (2)])
def wsX1_power : List Cond := .code yX1_power cX1_power 11 (some .long) :: ([])
def wsX1_make : List Cond := .code yX1_make cX1_make 10 none :: ([.fieldLink RX1 31 "DomainKeysModel" "madeQ" "I", .fieldLink RX1 38 "DomainKeysModel" "outcome" "I", .constantLong RX1 41 (1073741824), .constantLong RX1 25 (2), .fieldLink RX1 43 "DomainKeysModel" "madeP" "I", .methodLink RX1 27 yX1_h, .static yX1_h, .initialized RX1, .code yX1_h cX1_h 6 (some .long), .constantLong RX1 17 (1442695040888963407), .constantLong RX1 19 (6364136223846793005), .constantLong RX1 21 (2862933555777941757), .methodLink RX1 34 yX1_prime, .static yX1_prime, .code yX1_prime cX1_prime 3 (some .boolean), .constantLong RX1 23 (3)] ++ wsX10)
def wsX1_generate_r1 : List Cond := [Cond.fieldLink RX1 13 "DomainKeysModel" "thrown" "I", Cond.fieldLink RX1 38 "DomainKeysModel" "outcome" "I", Cond.fieldLink RX1 50 "DomainKeysModel" "hasCandidate" "Z", Cond.fieldLink RX1 54 "DomainKeysModel" "seed" "J", Cond.fieldLink RX1 43 "DomainKeysModel" "madeP" "I", Cond.fieldLink RX1 58 "DomainKeysModel" "candidateP" "I", Cond.fieldLink RX1 31 "DomainKeysModel" "madeQ" "I", Cond.fieldLink RX1 61 "DomainKeysModel" "candidateQ" "I", Cond.fieldLink RX1 64 "DomainKeysModel" "candidateCounter" "I", Cond.methodLink RX1 46 yX1_make, Cond.instanceMethod yX1_make, Cond.selects RX1 yX1_make yX1_make, Cond.initialized RX1, Cond.code yX1_make cX1_make 10 none, Cond.constantLong RX1 41 (1073741824), Cond.constantLong RX1 25 (2), Cond.methodLink RX1 27 yX1_h, Cond.static yX1_h, Cond.code yX1_h cX1_h 6 (some .long), Cond.constantLong RX1 17 (1442695040888963407), Cond.constantLong RX1 19 (6364136223846793005), Cond.constantLong RX1 21 (2862933555777941757), Cond.methodLink RX1 34 yX1_prime, Cond.static yX1_prime]
def wsX1_generate_r2 : List Cond := [Cond.code yX1_prime cX1_prime 3 (some .boolean), Cond.constantLong RX1 23 (3)]
def wsX1_generate : List Cond := .code yX1_generate cX1_generate 3 (some .int) :: ((wsX1_generate_r1 ++ wsX1_generate_r2) ++ wsX10)
def wsX1_candidate : List Cond := .code yX1_candidate cX1_candidate 2 (some .long) :: ([.fieldLink RX1 13 "DomainKeysModel" "thrown" "I", .fieldLink RX1 50 "DomainKeysModel" "hasCandidate" "Z", .fieldLink RX1 58 "DomainKeysModel" "candidateP" "I", .fieldLink RX1 61 "DomainKeysModel" "candidateQ" "I", .fieldLink RX1 54 "DomainKeysModel" "seed" "J", .fieldLink RX1 64 "DomainKeysModel" "candidateCounter" "I"] ++ wsX10)
def wsX1_generator : List Cond := .code yX1_generator cX1_generator 9 (some .int) :: ([.fieldLink RX1 50 "DomainKeysModel" "hasCandidate" "Z", .fieldLink RX1 13 "DomainKeysModel" "thrown" "I", .fieldLink RX1 54 "DomainKeysModel" "seed" "J", .constantLong RX1 67 (100), .fieldLink RX1 58 "DomainKeysModel" "candidateP" "I", .fieldLink RX1 61 "DomainKeysModel" "candidateQ" "I", .methodLink RX1 27 yX1_h, .static yX1_h, .initialized RX1, .code yX1_h cX1_h 6 (some .long), .constantLong RX1 17 (1442695040888963407), .constantLong RX1 19 (6364136223846793005), .constantLong RX1 21 (2862933555777941757), .methodLink RX1 69 yX1_power, .static yX1_power, .code yX1_power cX1_power 11 (some .long)] ++ wsX10)
def wsX1_valid : List Cond := .code yX1_valid cX1_valid 6 (some .boolean) :: ([.fieldLink RX1 13 "DomainKeysModel" "thrown" "I", .fieldLink RX1 38 "DomainKeysModel" "outcome" "I", .fieldLink RX1 43 "DomainKeysModel" "madeP" "I", .fieldLink RX1 31 "DomainKeysModel" "madeQ" "I", .methodLink RX1 46 yX1_make, .instanceMethod yX1_make, .selects RX1 yX1_make yX1_make, .initialized RX1, .code yX1_make cX1_make 10 none, .constantLong RX1 41 (1073741824), .constantLong RX1 25 (2), .methodLink RX1 27 yX1_h, .static yX1_h, .code yX1_h cX1_h 6 (some .long), .constantLong RX1 17 (1442695040888963407), .constantLong RX1 19 (6364136223846793005), .constantLong RX1 21 (2862933555777941757), .methodLink RX1 34 yX1_prime, .static yX1_prime, .code yX1_prime cX1_prime 3 (some .boolean), .constantLong RX1 23 (3)] ++ wsX10)
def wsX1_adopt : List Cond := .code yX1_adopt cX1_adopt 6 none :: ([.fieldLink RX1 13 "DomainKeysModel" "thrown" "I", .fieldLink RX1 73 "DomainKeysModel" "p" "I", .fieldLink RX1 76 "DomainKeysModel" "q" "I", .fieldLink RX1 79 "DomainKeysModel" "g" "I", .fieldLink RX1 7 "DomainKeysModel" "secrets" "[I", .methodLink RX1 34 yX1_prime, .static yX1_prime, .initialized RX1, .code yX1_prime cX1_prime 3 (some .boolean), .constantLong RX1 23 (3), .constantLong RX1 25 (2), .methodLink RX1 69 yX1_power, .static yX1_power, .code yX1_power cX1_power 11 (some .long)] ++ wsX10)
def wsX1_domain : List Cond := .code yX1_domain cX1_domain 2 (some .int) :: ([.fieldLink RX1 13 "DomainKeysModel" "thrown" "I", .fieldLink RX1 73 "DomainKeysModel" "p" "I", .fieldLink RX1 76 "DomainKeysModel" "q" "I", .fieldLink RX1 79 "DomainKeysModel" "g" "I"] ++ wsX10)
def wsX1_hasKey : List Cond := .code yX1_hasKey cX1_hasKey 2 (some .boolean) :: ([.fieldLink RX1 7 "DomainKeysModel" "secrets" "[I"] ++ wsX10)
def wsX1_key : List Cond := .code yX1_key cX1_key 3 (some .int) :: ([.fieldLink RX1 73 "DomainKeysModel" "p" "I", .fieldLink RX1 76 "DomainKeysModel" "q" "I", .fieldLink RX1 13 "DomainKeysModel" "thrown" "I", .fieldLink RX1 7 "DomainKeysModel" "secrets" "[I", .fieldLink RX1 79 "DomainKeysModel" "g" "I", .methodLink RX1 69 yX1_power, .static yX1_power, .initialized RX1, .code yX1_power cX1_power 11 (some .long)] ++ wsX10)
def wsX1_publicNumber : List Cond := .code yX1_publicNumber cX1_publicNumber 2 (some .int) :: ([.fieldLink RX1 13 "DomainKeysModel" "thrown" "I", .fieldLink RX1 79 "DomainKeysModel" "g" "I", .fieldLink RX1 7 "DomainKeysModel" "secrets" "[I", .fieldLink RX1 73 "DomainKeysModel" "p" "I", .methodLink RX1 82 yX1_hasKey, .instanceMethod yX1_hasKey, .selects RX1 yX1_hasKey yX1_hasKey, .initialized RX1, .code yX1_hasKey cX1_hasKey 2 (some .boolean), .methodLink RX1 69 yX1_power, .static yX1_power, .code yX1_power cX1_power 11 (some .long)] ++ wsX10)
def wsX1_forget : List Cond := .code yX1_forget cX1_forget 2 none :: ([.fieldLink RX1 13 "DomainKeysModel" "thrown" "I", .fieldLink RX1 7 "DomainKeysModel" "secrets" "[I", .methodLink RX1 82 yX1_hasKey, .instanceMethod yX1_hasKey, .selects RX1 yX1_hasKey yX1_hasKey, .initialized RX1, .code yX1_hasKey cX1_hasKey 2 (some .boolean)] ++ wsX10)
def wsX1_fits : List Cond := .code yX1_fits cX1_fits 2 (some .boolean) :: ([.fieldLink RX1 73 "DomainKeysModel" "p" "I", .fieldLink RX1 13 "DomainKeysModel" "thrown" "I", .fieldLink RX1 76 "DomainKeysModel" "q" "I", .methodLink RX1 69 yX1_power, .static yX1_power, .initialized RX1, .code yX1_power cX1_power 11 (some .long)] ++ wsX10)
def wsX1_digestOf : List Cond := .code yX1_digestOf cX1_digestOf 2 (some .long) :: ([.constantLong RX1 23 (3), .methodLink RX1 27 yX1_h, .static yX1_h, .initialized RX1, .code yX1_h cX1_h 6 (some .long), .constantLong RX1 17 (1442695040888963407), .constantLong RX1 19 (6364136223846793005), .constantLong RX1 21 (2862933555777941757)])
def wsX1_digest : List Cond := .code yX1_digest cX1_digest 3 (some .int) :: ([.fieldLink RX1 13 "DomainKeysModel" "thrown" "I", .methodLink RX1 85 yX1_digestOf, .static yX1_digestOf, .initialized RX1, .code yX1_digestOf cX1_digestOf 2 (some .long), .constantLong RX1 23 (3), .methodLink RX1 27 yX1_h, .static yX1_h, .code yX1_h cX1_h 6 (some .long), .constantLong RX1 17 (1442695040888963407), .constantLong RX1 19 (6364136223846793005), .constantLong RX1 21 (2862933555777941757)] ++ wsX10)
def wsX1_sign : List Cond := .code yX1_sign cX1_sign 11 (some .long) :: ([.fieldLink RX1 76 "DomainKeysModel" "q" "I", .fieldLink RX1 13 "DomainKeysModel" "thrown" "I", .fieldLink RX1 79 "DomainKeysModel" "g" "I", .fieldLink RX1 73 "DomainKeysModel" "p" "I", .fieldLink RX1 7 "DomainKeysModel" "secrets" "[I", .constantLong RX1 89 (4294967296), .methodLink RX1 82 yX1_hasKey, .instanceMethod yX1_hasKey, .selects RX1 yX1_hasKey yX1_hasKey, .initialized RX1, .code yX1_hasKey cX1_hasKey 2 (some .boolean), .methodLink RX1 69 yX1_power, .static yX1_power, .code yX1_power cX1_power 11 (some .long), .methodLink RX1 85 yX1_digestOf, .static yX1_digestOf, .code yX1_digestOf cX1_digestOf 2 (some .long), .constantLong RX1 23 (3), .methodLink RX1 27 yX1_h, .static yX1_h, .code yX1_h cX1_h 6 (some .long), .constantLong RX1 17 (1442695040888963407), .constantLong RX1 19 (6364136223846793005), .constantLong RX1 21 (2862933555777941757)] ++ wsX10)
def wsX1_verify : List Cond := .code yX1_verify cX1_verify 14 (some .boolean) :: ([.fieldLink RX1 73 "DomainKeysModel" "p" "I", .fieldLink RX1 13 "DomainKeysModel" "thrown" "I", .fieldLink RX1 76 "DomainKeysModel" "q" "I", .fieldLink RX1 79 "DomainKeysModel" "g" "I", .methodLink RX1 69 yX1_power, .static yX1_power, .initialized RX1, .code yX1_power cX1_power 11 (some .long), .methodLink RX1 85 yX1_digestOf, .static yX1_digestOf, .code yX1_digestOf cX1_digestOf 2 (some .long), .constantLong RX1 23 (3), .methodLink RX1 27 yX1_h, .static yX1_h, .code yX1_h cX1_h 6 (some .long), .constantLong RX1 17 (1442695040888963407), .constantLong RX1 19 (6364136223846793005), .constantLong RX1 21 (2862933555777941757)] ++ wsX10)
def wsX1_agree : List Cond := .code yX1_agree cX1_agree 5 (some .int) :: ([.fieldLink RX1 73 "DomainKeysModel" "p" "I", .fieldLink RX1 13 "DomainKeysModel" "thrown" "I", .fieldLink RX1 7 "DomainKeysModel" "secrets" "[I", .methodLink RX1 82 yX1_hasKey, .instanceMethod yX1_hasKey, .selects RX1 yX1_hasKey yX1_hasKey, .initialized RX1, .code yX1_hasKey cX1_hasKey 2 (some .boolean), .methodLink RX1 69 yX1_power, .static yX1_power, .code yX1_power cX1_power 11 (some .long)] ++ wsX10)
def wsL_generator_r1 : List Cond := [Cond.classLink RL 13 "java/lang/IllegalStateException", Cond.classLink RL 15 "java/lang/IllegalArgumentException", Cond.methodLink RL 7 yX0_generator, Cond.instanceMethod yX0_generator, Cond.selects RX0 yX0_generator yX0_generator, Cond.initialized RX0, Cond.code yX0_generator cX0_generator 2 (some .int), Cond.classLink RX0 41 "java/lang/IllegalStateException", Cond.initialized "java/lang/IllegalStateException", Cond.classLink RX0 48 "java/lang/IllegalArgumentException", Cond.initialized "java/lang/IllegalArgumentException", Cond.fieldLink RX0 31 "DomainKeys" "candidateP" "I", Cond.methodLink RX0 53 yX0_generatorAt, Cond.instanceMethod yX0_generatorAt, Cond.selects RX0 yX0_generatorAt yX0_generatorAt, Cond.code yX0_generatorAt cX0_generatorAt 8 (some .int), Cond.fieldLink RX0 34 "DomainKeys" "candidateSeed" "J", Cond.fieldLink RX0 23 "DomainKeys" "candidateQ" "I", Cond.methodLink RX0 105 yX0_mix, Cond.static yX0_mix, Cond.code yX0_mix cX0_mix 6 (some .long), Cond.constantLong RX0 139 (1442695040888963407), Cond.constantLong RX0 141 (6364136223846793005), Cond.constantLong RX0 143 (2862933555777941757)]
def wsL_generator_r2 : List Cond := [Cond.methodLink RX0 93 yX0_power, Cond.static yX0_power, Cond.code yX0_power cX0_power 6 (some .int)]
def wsL_generator : List Cond := .codeWith yL_generator cL_generator 4 (some .int) [(0, 9, 12, 13), (0, 9, 15, 15)] :: ((wsL_generator_r1 ++ wsL_generator_r2) ++ wsX00 ++ (vx_atS RX0 45 "java/lang/IllegalStateException" ["java/lang/RuntimeException", "java/lang/Exception"]).filter goodWord ++ (vx_atS RX0 52 "java/lang/IllegalArgumentException" ["java/lang/RuntimeException", "java/lang/Exception"]).filter goodWord)
def wsL_adopt_r1 : List Cond := [Cond.classLink RL 15 "java/lang/IllegalArgumentException", Cond.methodLink RL 17 yX0_adopt, Cond.instanceMethod yX0_adopt, Cond.selects RX0 yX0_adopt yX0_adopt, Cond.initialized RX0, Cond.code yX0_adopt cX0_adopt 5 none, Cond.classLink RX0 48 "java/lang/IllegalArgumentException", Cond.initialized "java/lang/IllegalArgumentException", Cond.fieldLink RX0 63 "DomainKeys" "domainP" "I", Cond.fieldLink RX0 66 "DomainKeys" "domainQ" "I", Cond.fieldLink RX0 69 "DomainKeys" "domainG" "I", Cond.methodLink RX0 57 yX0_isDomain, Cond.static yX0_isDomain, Cond.code yX0_isDomain cX0_isDomain 3 (some .boolean), Cond.methodLink RX0 132 yX0_isPrime, Cond.static yX0_isPrime, Cond.code yX0_isPrime cX0_isPrime 2 (some .boolean), Cond.constant RX0 138 (46340), Cond.methodLink RX0 93 yX0_power, Cond.static yX0_power, Cond.code yX0_power cX0_power 6 (some .int), Cond.methodLink RX0 72 yX0_clearSlot, Cond.instanceMethod yX0_clearSlot, Cond.selects RX0 yX0_clearSlot yX0_clearSlot]
def wsL_adopt_r2 : List Cond := [Cond.code yX0_clearSlot cX0_clearSlot 2 none, Cond.fieldLink RX0 9 "DomainKeys" "secrets" "[I", Cond.fieldLink RX0 13 "DomainKeys" "publicNumbers" "[I"]
def wsL_adopt : List Cond := .codeWith yL_adopt cL_adopt 5 (some .int) [(0, 7, 10, 15)] :: ((wsL_adopt_r1 ++ wsL_adopt_r2) ++ wsX00 ++ (vx_atS RX0 52 "java/lang/IllegalArgumentException" ["java/lang/RuntimeException", "java/lang/Exception"]).filter goodWord)
def wsL_key_r1 : List Cond := [Cond.classLink RL 13 "java/lang/IllegalStateException", Cond.classLink RL 25 "java/lang/IndexOutOfBoundsException", Cond.classLink RL 15 "java/lang/IllegalArgumentException", Cond.methodLink RL 21 yX0_key, Cond.instanceMethod yX0_key, Cond.selects RX0 yX0_key yX0_key, Cond.initialized RX0, Cond.code yX0_key cX0_key 3 (some .int), Cond.classLink RX0 83 "java/lang/IndexOutOfBoundsException", Cond.initialized "java/lang/IndexOutOfBoundsException", Cond.classLink RX0 48 "java/lang/IllegalArgumentException", Cond.initialized "java/lang/IllegalArgumentException", Cond.fieldLink RX0 9 "DomainKeys" "secrets" "[I", Cond.fieldLink RX0 13 "DomainKeys" "publicNumbers" "[I", Cond.fieldLink RX0 69 "DomainKeys" "domainG" "I", Cond.fieldLink RX0 63 "DomainKeys" "domainP" "I", Cond.methodLink RX0 76 yX0_requireDomain, Cond.instanceMethod yX0_requireDomain, Cond.selects RX0 yX0_requireDomain yX0_requireDomain, Cond.code yX0_requireDomain cX0_requireDomain 1 none, Cond.classLink RX0 41 "java/lang/IllegalStateException", Cond.initialized "java/lang/IllegalStateException", Cond.methodLink RX0 79 yX0_isSlot, Cond.static yX0_isSlot]
def wsL_key_r2 : List Cond := [Cond.code yX0_isSlot cX0_isSlot 1 (some .boolean), Cond.methodLink RX0 88 yX0_isExponent, Cond.instanceMethod yX0_isExponent, Cond.selects RX0 yX0_isExponent yX0_isExponent, Cond.code yX0_isExponent cX0_isExponent 2 (some .boolean), Cond.fieldLink RX0 66 "DomainKeys" "domainQ" "I", Cond.methodLink RX0 93 yX0_power, Cond.static yX0_power, Cond.code yX0_power cX0_power 6 (some .int)]
def wsL_key : List Cond := .codeWith yL_key cL_key 5 (some .int) [(0, 10, 13, 13), (0, 10, 17, 25), (0, 10, 21, 15)] :: ((wsL_key_r1 ++ wsL_key_r2) ++ wsX00 ++ (vx_atS RX0 87 "java/lang/IndexOutOfBoundsException" ["java/lang/RuntimeException", "java/lang/Exception"]).filter goodWord ++ (vx_atS RX0 52 "java/lang/IllegalArgumentException" ["java/lang/RuntimeException", "java/lang/Exception"]).filter goodWord ++ (vx_atS RX0 45 "java/lang/IllegalStateException" ["java/lang/RuntimeException", "java/lang/Exception"]).filter goodWord)
def wsL_publicNumber : List Cond := .codeWith yL_publicNumber cL_publicNumber 4 (some .int) [(0, 9, 12, 30)] :: ([.classLink RL 30 "java/util/NoSuchElementException", .methodLink RL 27 yX0_publicNumber, .instanceMethod yX0_publicNumber, .selects RX0 yX0_publicNumber yX0_publicNumber, .initialized RX0, .code yX0_publicNumber cX0_publicNumber 2 (some .int), .fieldLink RX0 13 "DomainKeys" "publicNumbers" "[I", .methodLink RX0 97 yX0_requireKey, .instanceMethod yX0_requireKey, .selects RX0 yX0_requireKey yX0_requireKey, .code yX0_requireKey cX0_requireKey 2 none, .classLink RX0 127 "java/util/NoSuchElementException", .initialized "java/util/NoSuchElementException", .fieldLink RX0 9 "DomainKeys" "secrets" "[I", .methodLink RX0 79 yX0_isSlot, .static yX0_isSlot, .code yX0_isSlot cX0_isSlot 1 (some .boolean)] ++ wsX00 ++ (dk_atX RX0 131 "java/util/NoSuchElementException" ["java/lang/RuntimeException", "java/lang/Exception"]).filter goodWord)
def wsL_forget : List Cond := .codeWith yL_forget cL_forget 3 (some .int) [(0, 5, 8, 30)] :: ([.classLink RL 30 "java/util/NoSuchElementException", .methodLink RL 32 yX0_forget, .instanceMethod yX0_forget, .selects RX0 yX0_forget yX0_forget, .initialized RX0, .code yX0_forget cX0_forget 2 none, .methodLink RX0 97 yX0_requireKey, .instanceMethod yX0_requireKey, .selects RX0 yX0_requireKey yX0_requireKey, .code yX0_requireKey cX0_requireKey 2 none, .classLink RX0 127 "java/util/NoSuchElementException", .initialized "java/util/NoSuchElementException", .fieldLink RX0 9 "DomainKeys" "secrets" "[I", .methodLink RX0 79 yX0_isSlot, .static yX0_isSlot, .code yX0_isSlot cX0_isSlot 1 (some .boolean), .methodLink RX0 72 yX0_clearSlot, .instanceMethod yX0_clearSlot, .selects RX0 yX0_clearSlot yX0_clearSlot, .code yX0_clearSlot cX0_clearSlot 2 none, .fieldLink RX0 13 "DomainKeys" "publicNumbers" "[I"] ++ wsX00 ++ (dk_atX RX0 131 "java/util/NoSuchElementException" ["java/lang/RuntimeException", "java/lang/Exception"]).filter goodWord)
def wsL_fits : List Cond := .codeWith yL_fits cL_fits 4 (some .int) [(0, 16, 19, 13)] :: ([.classLink RL 13 "java/lang/IllegalStateException", .methodLink RL 36 yX0_fits, .instanceMethod yX0_fits, .selects RX0 yX0_fits yX0_fits, .initialized RX0, .code yX0_fits cX0_fits 2 (some .boolean), .fieldLink RX0 66 "DomainKeys" "domainQ" "I", .fieldLink RX0 63 "DomainKeys" "domainP" "I", .methodLink RX0 76 yX0_requireDomain, .instanceMethod yX0_requireDomain, .selects RX0 yX0_requireDomain yX0_requireDomain, .code yX0_requireDomain cX0_requireDomain 1 none, .classLink RX0 41 "java/lang/IllegalStateException", .initialized "java/lang/IllegalStateException", .methodLink RX0 100 yX0_isPeer, .instanceMethod yX0_isPeer, .selects RX0 yX0_isPeer yX0_isPeer, .code yX0_isPeer cX0_isPeer 2 (some .boolean), .methodLink RX0 93 yX0_power, .static yX0_power, .code yX0_power cX0_power 6 (some .int)] ++ wsX00 ++ (vx_atS RX0 45 "java/lang/IllegalStateException" ["java/lang/RuntimeException", "java/lang/Exception"]).filter goodWord)
def wsL_sign_r1 : List Cond := [Cond.classLink RL 30 "java/util/NoSuchElementException", Cond.classLink RL 15 "java/lang/IllegalArgumentException", Cond.classLink RL 44 "java/lang/ArithmeticException", Cond.methodLink RL 40 yX0_sign, Cond.instanceMethod yX0_sign, Cond.selects RX0 yX0_sign yX0_sign, Cond.initialized RX0, Cond.code yX0_sign cX0_sign 11 (some .long), Cond.classLink RX0 48 "java/lang/IllegalArgumentException", Cond.initialized "java/lang/IllegalArgumentException", Cond.classLink RX0 118 "java/lang/ArithmeticException", Cond.initialized "java/lang/ArithmeticException", Cond.fieldLink RX0 69 "DomainKeys" "domainG" "I", Cond.fieldLink RX0 63 "DomainKeys" "domainP" "I", Cond.fieldLink RX0 66 "DomainKeys" "domainQ" "I", Cond.fieldLink RX0 9 "DomainKeys" "secrets" "[I", Cond.methodLink RX0 97 yX0_requireKey, Cond.instanceMethod yX0_requireKey, Cond.selects RX0 yX0_requireKey yX0_requireKey, Cond.code yX0_requireKey cX0_requireKey 2 none, Cond.classLink RX0 127 "java/util/NoSuchElementException", Cond.initialized "java/util/NoSuchElementException", Cond.methodLink RX0 79 yX0_isSlot, Cond.static yX0_isSlot]
def wsL_sign_r2 : List Cond := [Cond.code yX0_isSlot cX0_isSlot 1 (some .boolean), Cond.methodLink RX0 88 yX0_isExponent, Cond.instanceMethod yX0_isExponent, Cond.selects RX0 yX0_isExponent yX0_isExponent, Cond.code yX0_isExponent cX0_isExponent 2 (some .boolean), Cond.methodLink RX0 93 yX0_power, Cond.static yX0_power, Cond.code yX0_power cX0_power 6 (some .int), Cond.methodLink RX0 111 yX0_digest, Cond.instanceMethod yX0_digest, Cond.selects RX0 yX0_digest yX0_digest, Cond.code yX0_digest cX0_digest 3 (some .int), Cond.constantLong RX0 103 (3), Cond.methodLink RX0 105 yX0_mix, Cond.static yX0_mix, Cond.code yX0_mix cX0_mix 6 (some .long), Cond.constantLong RX0 139 (1442695040888963407), Cond.constantLong RX0 141 (6364136223846793005), Cond.constantLong RX0 143 (2862933555777941757), Cond.methodLink RX0 114 yX0_inverse, Cond.static yX0_inverse, Cond.code yX0_inverse cX0_inverse 2 (some .int)]
def wsL_sign : List Cond := .codeWith yL_sign cL_sign 7 (some .int) [(0, 12, 15, 30), (0, 12, 19, 15), (0, 12, 23, 44)] :: ((wsL_sign_r1 ++ wsL_sign_r2) ++ wsX00 ++ (vx_atS RX0 52 "java/lang/IllegalArgumentException" ["java/lang/RuntimeException", "java/lang/Exception"]).filter goodWord ++ (vx_atS RX0 122 "java/lang/ArithmeticException" ["java/lang/RuntimeException", "java/lang/Exception"]).filter goodWord ++ (dk_atX RX0 131 "java/util/NoSuchElementException" ["java/lang/RuntimeException", "java/lang/Exception"]).filter goodWord)
def wsL_verify_r1 : List Cond := [Cond.classLink RL 13 "java/lang/IllegalStateException", Cond.methodLink RL 46 yX0_verify, Cond.instanceMethod yX0_verify, Cond.selects RX0 yX0_verify yX0_verify, Cond.initialized RX0, Cond.code yX0_verify cX0_verify 12 (some .boolean), Cond.fieldLink RX0 63 "DomainKeys" "domainP" "I", Cond.fieldLink RX0 66 "DomainKeys" "domainQ" "I", Cond.fieldLink RX0 69 "DomainKeys" "domainG" "I", Cond.methodLink RX0 76 yX0_requireDomain, Cond.instanceMethod yX0_requireDomain, Cond.selects RX0 yX0_requireDomain yX0_requireDomain, Cond.code yX0_requireDomain cX0_requireDomain 1 none, Cond.classLink RX0 41 "java/lang/IllegalStateException", Cond.initialized "java/lang/IllegalStateException", Cond.methodLink RX0 88 yX0_isExponent, Cond.instanceMethod yX0_isExponent, Cond.selects RX0 yX0_isExponent yX0_isExponent, Cond.code yX0_isExponent cX0_isExponent 2 (some .boolean), Cond.methodLink RX0 114 yX0_inverse, Cond.static yX0_inverse, Cond.code yX0_inverse cX0_inverse 2 (some .int), Cond.methodLink RX0 93 yX0_power, Cond.static yX0_power]
def wsL_verify_r2 : List Cond := [Cond.code yX0_power cX0_power 6 (some .int), Cond.methodLink RX0 111 yX0_digest, Cond.instanceMethod yX0_digest, Cond.selects RX0 yX0_digest yX0_digest, Cond.code yX0_digest cX0_digest 3 (some .int), Cond.constantLong RX0 103 (3), Cond.methodLink RX0 105 yX0_mix, Cond.static yX0_mix, Cond.code yX0_mix cX0_mix 6 (some .long), Cond.constantLong RX0 139 (1442695040888963407), Cond.constantLong RX0 141 (6364136223846793005), Cond.constantLong RX0 143 (2862933555777941757)]
def wsL_verify : List Cond := .codeWith yL_verify cL_verify 8 (some .int) [(0, 22, 25, 13)] :: ((wsL_verify_r1 ++ wsL_verify_r2) ++ wsX00 ++ (vx_atS RX0 45 "java/lang/IllegalStateException" ["java/lang/RuntimeException", "java/lang/Exception"]).filter goodWord)
def wsL_agree_r1 : List Cond := [Cond.classLink RL 30 "java/util/NoSuchElementException", Cond.classLink RL 15 "java/lang/IllegalArgumentException", Cond.classLink RL 44 "java/lang/ArithmeticException", Cond.methodLink RL 50 yX0_agree, Cond.instanceMethod yX0_agree, Cond.selects RX0 yX0_agree yX0_agree, Cond.initialized RX0, Cond.code yX0_agree cX0_agree 4 (some .int), Cond.classLink RX0 48 "java/lang/IllegalArgumentException", Cond.initialized "java/lang/IllegalArgumentException", Cond.classLink RX0 118 "java/lang/ArithmeticException", Cond.initialized "java/lang/ArithmeticException", Cond.fieldLink RX0 9 "DomainKeys" "secrets" "[I", Cond.fieldLink RX0 63 "DomainKeys" "domainP" "I", Cond.methodLink RX0 97 yX0_requireKey, Cond.instanceMethod yX0_requireKey, Cond.selects RX0 yX0_requireKey yX0_requireKey, Cond.code yX0_requireKey cX0_requireKey 2 none, Cond.classLink RX0 127 "java/util/NoSuchElementException", Cond.initialized "java/util/NoSuchElementException", Cond.methodLink RX0 79 yX0_isSlot, Cond.static yX0_isSlot, Cond.code yX0_isSlot cX0_isSlot 1 (some .boolean), Cond.methodLink RX0 100 yX0_isPeer]
def wsL_agree_r2 : List Cond := [Cond.instanceMethod yX0_isPeer, Cond.selects RX0 yX0_isPeer yX0_isPeer, Cond.code yX0_isPeer cX0_isPeer 2 (some .boolean), Cond.methodLink RX0 93 yX0_power, Cond.static yX0_power, Cond.code yX0_power cX0_power 6 (some .int)]
def wsL_agree : List Cond := .codeWith yL_agree cL_agree 5 (some .int) [(0, 10, 13, 30), (0, 10, 17, 15), (0, 10, 21, 44)] :: ((wsL_agree_r1 ++ wsL_agree_r2) ++ wsX00 ++ (vx_atS RX0 52 "java/lang/IllegalArgumentException" ["java/lang/RuntimeException", "java/lang/Exception"]).filter goodWord ++ (vx_atS RX0 122 "java/lang/ArithmeticException" ["java/lang/RuntimeException", "java/lang/Exception"]).filter goodWord ++ (dk_atX RX0 131 "java/util/NoSuchElementException" ["java/lang/RuntimeException", "java/lang/Exception"]).filter goodWord)
def wsL_law0_r1 : List Cond := [Cond.classLink RL 8 RX0, Cond.instantiable RX0 9, Cond.initialized RX0, Cond.classLink RL 54 RX1, Cond.instantiable RX1 13, Cond.initialized RX1, Cond.arrayClass .long, Cond.constantLong RL 57 (4294967295), Cond.methodLink RL 53 yX0_init, Cond.instanceMethod yX0_init, Cond.code yX0_init cX0_init 1 none, Cond.methodLink RX0 1 objectInit, Cond.instanceMethod objectInit, Cond.code objectInit ⟨#[0xb1]⟩ 1 none, Cond.arrayClass .int, Cond.fieldLink RX0 9 "DomainKeys" "secrets" "[I", Cond.fieldLink RX0 13 "DomainKeys" "publicNumbers" "[I", Cond.methodLink RL 56 yX1_init, Cond.instanceMethod yX1_init, Cond.code yX1_init cX1_init 1 none, Cond.methodLink RX1 1 objectInit, Cond.fieldLink RX1 7 "DomainKeysModel" "secrets" "[I", Cond.methodLink RL 59 yX0_generate, Cond.instanceMethod yX0_generate]
def wsL_law0_r2 : List Cond := [Cond.selects RX0 yX0_generate yX0_generate, Cond.code yX0_generate cX0_generate 4 (some .int), Cond.fieldLink RX0 23 "DomainKeys" "candidateQ" "I", Cond.fieldLink RX0 31 "DomainKeys" "candidateP" "I", Cond.fieldLink RX0 34 "DomainKeys" "candidateSeed" "J", Cond.fieldLink RX0 38 "DomainKeys" "candidateCounter" "I", Cond.methodLink RX0 16 yX0_counterFrom, Cond.static yX0_counterFrom, Cond.code yX0_counterFrom cX0_counterFrom 5 (some .int), Cond.constant RX0 135 (1073741824), Cond.methodLink RX0 20 yX0_orderFrom, Cond.static yX0_orderFrom, Cond.code yX0_orderFrom cX0_orderFrom 2 (some .int), Cond.methodLink RX0 105 yX0_mix, Cond.static yX0_mix, Cond.code yX0_mix cX0_mix 6 (some .long), Cond.constantLong RX0 139 (1442695040888963407), Cond.constantLong RX0 141 (6364136223846793005), Cond.constantLong RX0 143 (2862933555777941757), Cond.methodLink RX0 132 yX0_isPrime, Cond.static yX0_isPrime, Cond.code yX0_isPrime cX0_isPrime 2 (some .boolean), Cond.constant RX0 138 (46340), Cond.methodLink RX0 27 yX0_fieldTry]
def wsL_law0_r3 : List Cond := [Cond.static yX0_fieldTry, Cond.code yX0_fieldTry cX0_fieldTry 6 (some .int), Cond.constantLong RX0 136 (1073741824), Cond.methodLink RL 63 yX1_generate, Cond.instanceMethod yX1_generate, Cond.selects RX1 yX1_generate yX1_generate, Cond.code yX1_generate cX1_generate 3 (some .int), Cond.fieldLink RX1 13 "DomainKeysModel" "thrown" "I", Cond.fieldLink RX1 38 "DomainKeysModel" "outcome" "I", Cond.fieldLink RX1 50 "DomainKeysModel" "hasCandidate" "Z", Cond.fieldLink RX1 54 "DomainKeysModel" "seed" "J", Cond.fieldLink RX1 43 "DomainKeysModel" "madeP" "I", Cond.fieldLink RX1 58 "DomainKeysModel" "candidateP" "I", Cond.fieldLink RX1 31 "DomainKeysModel" "madeQ" "I", Cond.fieldLink RX1 61 "DomainKeysModel" "candidateQ" "I", Cond.fieldLink RX1 64 "DomainKeysModel" "candidateCounter" "I", Cond.methodLink RX1 46 yX1_make, Cond.instanceMethod yX1_make, Cond.selects RX1 yX1_make yX1_make, Cond.code yX1_make cX1_make 10 none, Cond.constantLong RX1 41 (1073741824), Cond.constantLong RX1 25 (2), Cond.methodLink RX1 27 yX1_h, Cond.static yX1_h]
def wsL_law0_r4 : List Cond := [Cond.code yX1_h cX1_h 6 (some .long), Cond.constantLong RX1 17 (1442695040888963407), Cond.constantLong RX1 19 (6364136223846793005), Cond.constantLong RX1 21 (2862933555777941757), Cond.methodLink RX1 34 yX1_prime, Cond.static yX1_prime, Cond.code yX1_prime cX1_prime 3 (some .boolean), Cond.constantLong RX1 23 (3), Cond.methodLink RL 64 yX0_candidate, Cond.instanceMethod yX0_candidate, Cond.selects RX0 yX0_candidate yX0_candidate, Cond.code yX0_candidate cX0_candidate 2 (some .long), Cond.methodLink RL 68 yX1_candidate, Cond.instanceMethod yX1_candidate, Cond.selects RX1 yX1_candidate yX1_candidate, Cond.code yX1_candidate cX1_candidate 2 (some .long), Cond.methodLink RL 69 yL_generator, Cond.static yL_generator, Cond.initialized RL, Cond.codeWith yL_generator cL_generator 4 (some .int) [(0, 9, 12, 13), (0, 9, 15, 15)], Cond.classLink RL 13 "java/lang/IllegalStateException", Cond.classLink RL 15 "java/lang/IllegalArgumentException", Cond.methodLink RL 7 yX0_generator, Cond.instanceMethod yX0_generator]
def wsL_law0_r5 : List Cond := [Cond.selects RX0 yX0_generator yX0_generator, Cond.code yX0_generator cX0_generator 2 (some .int), Cond.classLink RX0 41 "java/lang/IllegalStateException", Cond.initialized "java/lang/IllegalStateException", Cond.classLink RX0 48 "java/lang/IllegalArgumentException", Cond.initialized "java/lang/IllegalArgumentException", Cond.methodLink RX0 53 yX0_generatorAt, Cond.instanceMethod yX0_generatorAt, Cond.selects RX0 yX0_generatorAt yX0_generatorAt, Cond.code yX0_generatorAt cX0_generatorAt 8 (some .int), Cond.methodLink RX0 93 yX0_power, Cond.static yX0_power, Cond.code yX0_power cX0_power 6 (some .int), Cond.methodLink RL 74 yX1_generator, Cond.instanceMethod yX1_generator, Cond.selects RX1 yX1_generator yX1_generator, Cond.code yX1_generator cX1_generator 9 (some .int), Cond.constantLong RX1 67 (100), Cond.methodLink RX1 69 yX1_power, Cond.static yX1_power, Cond.code yX1_power cX1_power 11 (some .long), Cond.methodLink RL 75 yX1_thrown, Cond.instanceMethod yX1_thrown, Cond.selects RX1 yX1_thrown yX1_thrown]
def wsL_law0_r6 : List Cond := [Cond.code yX1_thrown cX1_thrown 1 (some .int), Cond.methodLink RL 79 yX0_valid, Cond.instanceMethod yX0_valid, Cond.selects RX0 yX0_valid yX0_valid, Cond.code yX0_valid cX0_valid 6 (some .boolean), Cond.methodLink RL 83 yX1_valid, Cond.instanceMethod yX1_valid, Cond.selects RX1 yX1_valid yX1_valid, Cond.code yX1_valid cX1_valid 6 (some .boolean), Cond.methodLink RL 84 yL_adopt, Cond.static yL_adopt, Cond.codeWith yL_adopt cL_adopt 5 (some .int) [(0, 7, 10, 15)], Cond.methodLink RL 17 yX0_adopt, Cond.instanceMethod yX0_adopt, Cond.selects RX0 yX0_adopt yX0_adopt, Cond.code yX0_adopt cX0_adopt 5 none, Cond.fieldLink RX0 63 "DomainKeys" "domainP" "I", Cond.fieldLink RX0 66 "DomainKeys" "domainQ" "I", Cond.fieldLink RX0 69 "DomainKeys" "domainG" "I", Cond.methodLink RX0 57 yX0_isDomain, Cond.static yX0_isDomain, Cond.code yX0_isDomain cX0_isDomain 3 (some .boolean), Cond.methodLink RX0 72 yX0_clearSlot, Cond.instanceMethod yX0_clearSlot]
def wsL_law0_r7 : List Cond := [Cond.selects RX0 yX0_clearSlot yX0_clearSlot, Cond.code yX0_clearSlot cX0_clearSlot 2 none, Cond.methodLink RL 87 yX1_adopt, Cond.instanceMethod yX1_adopt, Cond.selects RX1 yX1_adopt yX1_adopt, Cond.code yX1_adopt cX1_adopt 6 none, Cond.fieldLink RX1 73 "DomainKeysModel" "p" "I", Cond.fieldLink RX1 76 "DomainKeysModel" "q" "I", Cond.fieldLink RX1 79 "DomainKeysModel" "g" "I", Cond.methodLink RL 88 yX0_domain, Cond.instanceMethod yX0_domain, Cond.selects RX0 yX0_domain yX0_domain, Cond.code yX0_domain cX0_domain 2 (some .int), Cond.methodLink RL 91 yX1_domain, Cond.instanceMethod yX1_domain, Cond.selects RX1 yX1_domain yX1_domain, Cond.code yX1_domain cX1_domain 2 (some .int), Cond.methodLink RL 92 yL_key, Cond.static yL_key, Cond.codeWith yL_key cL_key 5 (some .int) [(0, 10, 13, 13), (0, 10, 17, 25), (0, 10, 21, 15)], Cond.classLink RL 25 "java/lang/IndexOutOfBoundsException", Cond.methodLink RL 21 yX0_key, Cond.instanceMethod yX0_key, Cond.selects RX0 yX0_key yX0_key]
def wsL_law0_r8 : List Cond := [Cond.code yX0_key cX0_key 3 (some .int), Cond.classLink RX0 83 "java/lang/IndexOutOfBoundsException", Cond.initialized "java/lang/IndexOutOfBoundsException", Cond.methodLink RX0 76 yX0_requireDomain, Cond.instanceMethod yX0_requireDomain, Cond.selects RX0 yX0_requireDomain yX0_requireDomain, Cond.code yX0_requireDomain cX0_requireDomain 1 none, Cond.methodLink RX0 79 yX0_isSlot, Cond.static yX0_isSlot, Cond.code yX0_isSlot cX0_isSlot 1 (some .boolean), Cond.methodLink RX0 88 yX0_isExponent, Cond.instanceMethod yX0_isExponent, Cond.selects RX0 yX0_isExponent yX0_isExponent, Cond.code yX0_isExponent cX0_isExponent 2 (some .boolean), Cond.methodLink RL 95 yX1_key, Cond.instanceMethod yX1_key, Cond.selects RX1 yX1_key yX1_key, Cond.code yX1_key cX1_key 3 (some .int), Cond.methodLink RL 96 yL_publicNumber, Cond.static yL_publicNumber, Cond.codeWith yL_publicNumber cL_publicNumber 4 (some .int) [(0, 9, 12, 30)], Cond.classLink RL 30 "java/util/NoSuchElementException", Cond.methodLink RL 27 yX0_publicNumber, Cond.instanceMethod yX0_publicNumber]
def wsL_law0_r9 : List Cond := [Cond.selects RX0 yX0_publicNumber yX0_publicNumber, Cond.code yX0_publicNumber cX0_publicNumber 2 (some .int), Cond.methodLink RX0 97 yX0_requireKey, Cond.instanceMethod yX0_requireKey, Cond.selects RX0 yX0_requireKey yX0_requireKey, Cond.code yX0_requireKey cX0_requireKey 2 none, Cond.classLink RX0 127 "java/util/NoSuchElementException", Cond.initialized "java/util/NoSuchElementException", Cond.methodLink RL 98 yX1_publicNumber, Cond.instanceMethod yX1_publicNumber, Cond.selects RX1 yX1_publicNumber yX1_publicNumber, Cond.code yX1_publicNumber cX1_publicNumber 2 (some .int), Cond.methodLink RX1 82 yX1_hasKey, Cond.instanceMethod yX1_hasKey, Cond.selects RX1 yX1_hasKey yX1_hasKey, Cond.code yX1_hasKey cX1_hasKey 2 (some .boolean), Cond.methodLink RL 99 yL_forget, Cond.static yL_forget, Cond.codeWith yL_forget cL_forget 3 (some .int) [(0, 5, 8, 30)], Cond.methodLink RL 32 yX0_forget, Cond.instanceMethod yX0_forget, Cond.selects RX0 yX0_forget yX0_forget, Cond.code yX0_forget cX0_forget 2 none, Cond.methodLink RL 102 yX1_forget]
def wsL_law0_r10 : List Cond := [Cond.instanceMethod yX1_forget, Cond.selects RX1 yX1_forget yX1_forget, Cond.code yX1_forget cX1_forget 2 none, Cond.methodLink RL 103 yL_fits, Cond.static yL_fits, Cond.codeWith yL_fits cL_fits 4 (some .int) [(0, 16, 19, 13)], Cond.methodLink RL 36 yX0_fits, Cond.instanceMethod yX0_fits, Cond.selects RX0 yX0_fits yX0_fits, Cond.code yX0_fits cX0_fits 2 (some .boolean), Cond.methodLink RX0 100 yX0_isPeer, Cond.instanceMethod yX0_isPeer, Cond.selects RX0 yX0_isPeer yX0_isPeer, Cond.code yX0_isPeer cX0_isPeer 2 (some .boolean), Cond.methodLink RL 105 yX1_fits, Cond.instanceMethod yX1_fits, Cond.selects RX1 yX1_fits yX1_fits, Cond.code yX1_fits cX1_fits 2 (some .boolean), Cond.methodLink RL 106 yX0_digest, Cond.instanceMethod yX0_digest, Cond.selects RX0 yX0_digest yX0_digest, Cond.code yX0_digest cX0_digest 3 (some .int), Cond.constantLong RX0 103 (3), Cond.methodLink RL 109 yX1_digest]
def wsL_law0_r11 : List Cond := [Cond.instanceMethod yX1_digest, Cond.selects RX1 yX1_digest yX1_digest, Cond.code yX1_digest cX1_digest 3 (some .int), Cond.methodLink RX1 85 yX1_digestOf, Cond.static yX1_digestOf, Cond.code yX1_digestOf cX1_digestOf 2 (some .long), Cond.methodLink RL 110 yL_sign, Cond.static yL_sign, Cond.codeWith yL_sign cL_sign 7 (some .int) [(0, 12, 15, 30), (0, 12, 19, 15), (0, 12, 23, 44)], Cond.classLink RL 44 "java/lang/ArithmeticException", Cond.methodLink RL 40 yX0_sign, Cond.instanceMethod yX0_sign, Cond.selects RX0 yX0_sign yX0_sign, Cond.code yX0_sign cX0_sign 11 (some .long), Cond.classLink RX0 118 "java/lang/ArithmeticException", Cond.initialized "java/lang/ArithmeticException", Cond.methodLink RX0 111 yX0_digest, Cond.methodLink RX0 114 yX0_inverse, Cond.static yX0_inverse, Cond.code yX0_inverse cX0_inverse 2 (some .int), Cond.methodLink RL 113 yX1_sign, Cond.instanceMethod yX1_sign, Cond.selects RX1 yX1_sign yX1_sign, Cond.code yX1_sign cX1_sign 11 (some .long)]
def wsL_law0_r12 : List Cond := [Cond.constantLong RX1 89 (4294967296), Cond.methodLink RL 114 yL_verify, Cond.static yL_verify, Cond.codeWith yL_verify cL_verify 8 (some .int) [(0, 22, 25, 13)], Cond.methodLink RL 46 yX0_verify, Cond.instanceMethod yX0_verify, Cond.selects RX0 yX0_verify yX0_verify, Cond.code yX0_verify cX0_verify 12 (some .boolean), Cond.methodLink RL 117 yX1_verify, Cond.instanceMethod yX1_verify, Cond.selects RX1 yX1_verify yX1_verify, Cond.code yX1_verify cX1_verify 14 (some .boolean), Cond.methodLink RL 118 yL_agree, Cond.static yL_agree, Cond.codeWith yL_agree cL_agree 5 (some .int) [(0, 10, 13, 30), (0, 10, 17, 15), (0, 10, 21, 44)], Cond.methodLink RL 50 yX0_agree, Cond.instanceMethod yX0_agree, Cond.selects RX0 yX0_agree yX0_agree, Cond.code yX0_agree cX0_agree 4 (some .int), Cond.methodLink RL 120 yX1_agree, Cond.instanceMethod yX1_agree, Cond.selects RX1 yX1_agree yX1_agree, Cond.code yX1_agree cX1_agree 5 (some .int)]
def wsL_law0 : List Cond := (wsL_law0_r1 ++ (wsL_law0_r2 ++ (wsL_law0_r3 ++ (wsL_law0_r4 ++ (wsL_law0_r5 ++ (wsL_law0_r6 ++ (wsL_law0_r7 ++ (wsL_law0_r8 ++ (wsL_law0_r9 ++ (wsL_law0_r10 ++ (wsL_law0_r11 ++ wsL_law0_r12))))))))))) ++ wsX00 ++ wsX10 ++ ([] : List Cond)
def wsL_law : List Cond := wsL_law0 ++ (vx_atS RX0 45 "java/lang/IllegalStateException" ["java/lang/RuntimeException", "java/lang/Exception"]).filter goodWord ++ (vx_atS RX0 52 "java/lang/IllegalArgumentException" ["java/lang/RuntimeException", "java/lang/Exception"]).filter goodWord ++ (vx_atS RX0 87 "java/lang/IndexOutOfBoundsException" ["java/lang/RuntimeException", "java/lang/Exception"]).filter goodWord ++ (dk_atX RX0 131 "java/util/NoSuchElementException" ["java/lang/RuntimeException", "java/lang/Exception"]).filter goodWord ++ (vx_atS RX0 122 "java/lang/ArithmeticException" ["java/lang/RuntimeException", "java/lang/Exception"]).filter goodWord
set_option maxRecDepth 20000 in
theorem wsL_law_in0 : ∀ w ∈ wsL_law0, w ∈ lw_tbl := fun w h => (goodIn_p wsL_law0 [24, 27, 347, 60, 63, 66, 69, 75, 79, 396, 400, 403, 409, 85, 416, 107, 197, 200, 420, 424, 392, 89, 428, 207, 210, 215, 432, 93, 436, 223, 227, 230, 250, 440, 259, 263, 444, 448, 286, 452, 293, 297, 456, 97, 460, 463, 305, 310, 467, 333, 472, 340, 476] (by decide +kernel) (by decide +kernel) w h).1
theorem wsL_law_x0 : ∀ w ∈ (vx_atS RX0 45 "java/lang/IllegalStateException" ["java/lang/RuntimeException", "java/lang/Exception"]).filter goodWord, w ∈ lw_tbl := by decide +kernel
theorem wsL_law_x1 : ∀ w ∈ (vx_atS RX0 52 "java/lang/IllegalArgumentException" ["java/lang/RuntimeException", "java/lang/Exception"]).filter goodWord, w ∈ lw_tbl := by decide +kernel
theorem wsL_law_x2 : ∀ w ∈ (vx_atS RX0 87 "java/lang/IndexOutOfBoundsException" ["java/lang/RuntimeException", "java/lang/Exception"]).filter goodWord, w ∈ lw_tbl := by decide +kernel
theorem wsL_law_x3 : ∀ w ∈ (dk_atX RX0 131 "java/util/NoSuchElementException" ["java/lang/RuntimeException", "java/lang/Exception"]).filter goodWord, w ∈ lw_tbl := by decide +kernel
theorem wsL_law_x4 : ∀ w ∈ (vx_atS RX0 122 "java/lang/ArithmeticException" ["java/lang/RuntimeException", "java/lang/Exception"]).filter goodWord, w ∈ lw_tbl := by decide +kernel
theorem wsL_law_in : ∀ w ∈ wsL_law, w ∈ lw_tbl := fun w h => (List.mem_append.mp h).elim (fun h => (List.mem_append.mp h).elim (fun h => (List.mem_append.mp h).elim (fun h => (List.mem_append.mp h).elim (fun h => (List.mem_append.mp h).elim (fun h => wsL_law_in0 w h) (fun h => wsL_law_x0 w h)) (fun h => wsL_law_x1 w h)) (fun h => wsL_law_x2 w h)) (fun h => wsL_law_x3 w h)) (fun h => wsL_law_x4 w h)
theorem inlX0 : ∀ w ∈ wsX00, w ∈ wsL_law := fun _ h => List.mem_append_left _ (List.mem_append_left _ (List.mem_append_left _ (List.mem_append_left _ (List.mem_append_left _ (List.mem_append_left _ (List.mem_append_left _ (List.mem_append_right _ h)))))))
theorem inX0 : ∀ w ∈ wsX00, w ∈ lw_tbl := fun w h => wsL_law_in w (inlX0 w h)
theorem inlX1 : ∀ w ∈ wsX10, w ∈ wsL_law := fun _ h => List.mem_append_left _ (List.mem_append_left _ (List.mem_append_left _ (List.mem_append_left _ (List.mem_append_left _ (List.mem_append_left _ (List.mem_append_right _ h))))))
theorem inX1 : ∀ w ∈ wsX10, w ∈ lw_tbl := fun w h => wsL_law_in w (inlX1 w h)
theorem inJ0 : ∀ w ∈ wsJ00, w ∈ lw_tbl := by decide +kernel
theorem dX0_init_0 : decode cX0_init 0 = .ok (.aload_n 0, 1) := by decide +kernel
theorem dX0_init_1 : decode cX0_init 1 = .ok (.invokespecial 1, 3) := by decide +kernel
theorem dX0_init_4 : decode cX0_init 4 = .ok (.aload_n 0, 1) := by decide +kernel
theorem dX0_init_5 : decode cX0_init 5 = .ok (.bipush 8, 2) := by decide +kernel
theorem dX0_init_7 : decode cX0_init 7 = .ok (.newarray .int, 2) := by decide +kernel
theorem dX0_init_9 : decode cX0_init 9 = .ok (.putfield 9, 3) := by decide +kernel
theorem dX0_init_12 : decode cX0_init 12 = .ok (.aload_n 0, 1) := by decide +kernel
theorem dX0_init_13 : decode cX0_init 13 = .ok (.bipush 8, 2) := by decide +kernel
theorem dX0_init_15 : decode cX0_init 15 = .ok (.newarray .int, 2) := by decide +kernel
theorem dX0_init_17 : decode cX0_init 17 = .ok (.putfield 13, 3) := by decide +kernel
theorem dX0_init_20 : decode cX0_init 20 = .ok (.return_, 1) := by decide +kernel
set_option maxRecDepth 20000 in
theorem ggX0_generate_X0_counterFrom : GoodIn wsX0_generate wsX0_counterFrom := goodIn_r _ [8, 9, 10, 11, 7, 12, 13, 14, 15, 16, 17, 18, 19, 20, 21, 22, 23, 24, 25, 26] (by decide +kernel) (by decide +kernel)
set_option maxRecDepth 20000 in
theorem gX0_generate_X0_counterFrom : GoodIn wsX0_generate (va_wsS RX0 16 yX0_counterFrom wsX0_counterFrom) := goodIn_app (goodIn_of _ (by decide +kernel)) ggX0_generate_X0_counterFrom
set_option maxRecDepth 20000 in
theorem ggX0_generate_X0_orderFrom : GoodIn wsX0_generate wsX0_orderFrom := goodIn_r _ [12, 13, 14, 7, 15, 16, 17, 18] (by decide +kernel) (by decide +kernel)
set_option maxRecDepth 20000 in
theorem gX0_generate_X0_orderFrom : GoodIn wsX0_generate (va_wsS RX0 20 yX0_orderFrom wsX0_orderFrom) := goodIn_app (goodIn_of _ (by decide +kernel)) ggX0_generate_X0_orderFrom
set_option maxRecDepth 20000 in
theorem ggX0_generate_X0_fieldTry : GoodIn wsX0_generate wsX0_fieldTry := goodIn_r _ [25, 26, 13, 14, 7, 15, 16, 17, 18] (by decide +kernel) (by decide +kernel)
set_option maxRecDepth 20000 in
theorem gX0_generate_X0_fieldTry : GoodIn wsX0_generate (va_wsS RX0 27 yX0_fieldTry wsX0_fieldTry) := goodIn_app (goodIn_of _ (by decide +kernel)) ggX0_generate_X0_fieldTry
theorem dX0_generate_0 : decode cX0_generate 0 = .ok (.lload_n 1, 1) := by decide +kernel
theorem dX0_generate_1 : decode cX0_generate 1 = .ok (.invokestatic 16, 3) := by decide +kernel
theorem dX0_generate_4 : decode cX0_generate 4 = .ok (.istore_n 3, 1) := by decide +kernel
theorem dX0_generate_5 : decode cX0_generate 5 = .ok (.iload_n 3, 1) := by decide +kernel
theorem dX0_generate_6 : decode cX0_generate 6 = .ok (.ifCond .lt 34, 3) := by decide +kernel
theorem dX0_generate_9 : decode cX0_generate 9 = .ok (.aload_n 0, 1) := by decide +kernel
theorem dX0_generate_10 : decode cX0_generate 10 = .ok (.lload_n 1, 1) := by decide +kernel
theorem dX0_generate_11 : decode cX0_generate 11 = .ok (.invokestatic 20, 3) := by decide +kernel
theorem dX0_generate_14 : decode cX0_generate 14 = .ok (.putfield 23, 3) := by decide +kernel
theorem dX0_generate_17 : decode cX0_generate 17 = .ok (.aload_n 0, 1) := by decide +kernel
theorem dX0_generate_18 : decode cX0_generate 18 = .ok (.lload_n 1, 1) := by decide +kernel
theorem dX0_generate_19 : decode cX0_generate 19 = .ok (.aload_n 0, 1) := by decide +kernel
theorem dX0_generate_20 : decode cX0_generate 20 = .ok (.getfield 23, 3) := by decide +kernel
theorem dX0_generate_23 : decode cX0_generate 23 = .ok (.iload_n 3, 1) := by decide +kernel
theorem dX0_generate_24 : decode cX0_generate 24 = .ok (.invokestatic 27, 3) := by decide +kernel
theorem dX0_generate_27 : decode cX0_generate 27 = .ok (.putfield 31, 3) := by decide +kernel
theorem dX0_generate_30 : decode cX0_generate 30 = .ok (.aload_n 0, 1) := by decide +kernel
theorem dX0_generate_31 : decode cX0_generate 31 = .ok (.lload_n 1, 1) := by decide +kernel
theorem dX0_generate_32 : decode cX0_generate 32 = .ok (.putfield 34, 3) := by decide +kernel
theorem dX0_generate_35 : decode cX0_generate 35 = .ok (.aload_n 0, 1) := by decide +kernel
theorem dX0_generate_36 : decode cX0_generate 36 = .ok (.iload_n 3, 1) := by decide +kernel
theorem dX0_generate_37 : decode cX0_generate 37 = .ok (.putfield 38, 3) := by decide +kernel
theorem dX0_generate_40 : decode cX0_generate 40 = .ok (.iload_n 3, 1) := by decide +kernel
theorem dX0_generate_41 : decode cX0_generate 41 = .ok (.ireturn, 1) := by decide +kernel
theorem dX0_candidate_0 : decode cX0_candidate 0 = .ok (.iload_n 1, 1) := by decide +kernel
theorem dX0_candidate_1 : decode cX0_candidate 1 = .ok (.tableswitch 54 0 3 #[31, 37, 43, 48], 31) := by decide +kernel
theorem dX0_candidate_32 : decode cX0_candidate 32 = .ok (.aload_n 0, 1) := by decide +kernel
theorem dX0_candidate_33 : decode cX0_candidate 33 = .ok (.getfield 31, 3) := by decide +kernel
theorem dX0_candidate_36 : decode cX0_candidate 36 = .ok (.i2l, 1) := by decide +kernel
theorem dX0_candidate_37 : decode cX0_candidate 37 = .ok (.lreturn, 1) := by decide +kernel
theorem dX0_candidate_38 : decode cX0_candidate 38 = .ok (.aload_n 0, 1) := by decide +kernel
theorem dX0_candidate_39 : decode cX0_candidate 39 = .ok (.getfield 23, 3) := by decide +kernel
theorem dX0_candidate_42 : decode cX0_candidate 42 = .ok (.i2l, 1) := by decide +kernel
theorem dX0_candidate_43 : decode cX0_candidate 43 = .ok (.lreturn, 1) := by decide +kernel
theorem dX0_candidate_44 : decode cX0_candidate 44 = .ok (.aload_n 0, 1) := by decide +kernel
theorem dX0_candidate_45 : decode cX0_candidate 45 = .ok (.getfield 34, 3) := by decide +kernel
theorem dX0_candidate_48 : decode cX0_candidate 48 = .ok (.lreturn, 1) := by decide +kernel
theorem dX0_candidate_49 : decode cX0_candidate 49 = .ok (.aload_n 0, 1) := by decide +kernel
theorem dX0_candidate_50 : decode cX0_candidate 50 = .ok (.getfield 38, 3) := by decide +kernel
theorem dX0_candidate_53 : decode cX0_candidate 53 = .ok (.i2l, 1) := by decide +kernel
theorem dX0_candidate_54 : decode cX0_candidate 54 = .ok (.lreturn, 1) := by decide +kernel
theorem dX0_candidate_55 : decode cX0_candidate 55 = .ok (.lconst 0, 1) := by decide +kernel
theorem dX0_candidate_56 : decode cX0_candidate 56 = .ok (.lreturn, 1) := by decide +kernel
set_option maxRecDepth 20000 in
theorem ggX0_generator_X0_generatorAt : GoodIn wsX0_generator wsX0_generatorAt := goodIn_r _ [10, 11, 5, 12, 13, 14, 9, 15, 16, 17, 18, 19, 20, 21, 22, 23, 24, 25, 26, 27, 28, 29, 30] (by decide +kernel) (by decide +kernel)
set_option maxRecDepth 20000 in
theorem gX0_generator_X0_generatorAt : GoodIn wsX0_generator (wsV RX0 53 RX0 yX0_generatorAt wsX0_generatorAt) := goodIn_app (goodIn_of _ (by decide +kernel)) ggX0_generator_X0_generatorAt
theorem dX0_generator_0 : decode cX0_generator 0 = .ok (.aload_n 0, 1) := by decide +kernel
theorem dX0_generator_1 : decode cX0_generator 1 = .ok (.getfield 31, 3) := by decide +kernel
theorem dX0_generator_4 : decode cX0_generator 4 = .ok (.ifCond .ne 13, 3) := by decide +kernel
theorem dX0_generator_7 : decode cX0_generator 7 = .ok (.new 41, 3) := by decide +kernel
theorem dX0_generator_10 : decode cX0_generator 10 = .ok (.dup, 1) := by decide +kernel
theorem dX0_generator_11 : decode cX0_generator 11 = .ok (.ldc 43, 2) := by decide +kernel
theorem dX0_generator_13 : decode cX0_generator 13 = .ok (.invokespecial 45, 3) := by decide +kernel
theorem dX0_generator_16 : decode cX0_generator 16 = .ok (.athrow, 1) := by decide +kernel
theorem dX0_generator_17 : decode cX0_generator 17 = .ok (.iload_n 1, 1) := by decide +kernel
theorem dX0_generator_18 : decode cX0_generator 18 = .ok (.ifCond .lt 10, 3) := by decide +kernel
theorem dX0_generator_21 : decode cX0_generator 21 = .ok (.iload_n 1, 1) := by decide +kernel
theorem dX0_generator_22 : decode cX0_generator 22 = .ok (.sipush 256, 3) := by decide +kernel
theorem dX0_generator_25 : decode cX0_generator 25 = .ok (.if_icmp .lt 13, 3) := by decide +kernel
theorem dX0_generator_28 : decode cX0_generator 28 = .ok (.new 48, 3) := by decide +kernel
theorem dX0_generator_31 : decode cX0_generator 31 = .ok (.dup, 1) := by decide +kernel
theorem dX0_generator_32 : decode cX0_generator 32 = .ok (.ldc 50, 2) := by decide +kernel
theorem dX0_generator_34 : decode cX0_generator 34 = .ok (.invokespecial 52, 3) := by decide +kernel
theorem dX0_generator_37 : decode cX0_generator 37 = .ok (.athrow, 1) := by decide +kernel
theorem dX0_generator_38 : decode cX0_generator 38 = .ok (.aload_n 0, 1) := by decide +kernel
theorem dX0_generator_39 : decode cX0_generator 39 = .ok (.iload_n 1, 1) := by decide +kernel
theorem dX0_generator_40 : decode cX0_generator 40 = .ok (.invokevirtual 53, 3) := by decide +kernel
theorem dX0_generator_43 : decode cX0_generator 43 = .ok (.ireturn, 1) := by decide +kernel
set_option maxRecDepth 20000 in
theorem ggX0_valid_X0_orderFrom : GoodIn wsX0_valid wsX0_orderFrom := goodIn_r _ [4, 5, 6, 3, 7, 8, 9, 10] (by decide +kernel) (by decide +kernel)
set_option maxRecDepth 20000 in
theorem gX0_valid_X0_orderFrom : GoodIn wsX0_valid (va_wsS RX0 20 yX0_orderFrom wsX0_orderFrom) := goodIn_app (goodIn_of _ (by decide +kernel)) ggX0_valid_X0_orderFrom
set_option maxRecDepth 20000 in
theorem ggX0_valid_X0_counterFrom : GoodIn wsX0_valid wsX0_counterFrom := goodIn_r _ [13, 14, 1, 2, 3, 4, 5, 6, 7, 8, 9, 10, 15, 16, 17, 18, 19, 20, 21, 22] (by decide +kernel) (by decide +kernel)
set_option maxRecDepth 20000 in
theorem gX0_valid_X0_counterFrom : GoodIn wsX0_valid (va_wsS RX0 16 yX0_counterFrom wsX0_counterFrom) := goodIn_app (goodIn_of _ (by decide +kernel)) ggX0_valid_X0_counterFrom
set_option maxRecDepth 20000 in
theorem ggX0_valid_X0_fieldTry : GoodIn wsX0_valid wsX0_fieldTry := goodIn_r _ [21, 22, 5, 6, 3, 7, 8, 9, 10] (by decide +kernel) (by decide +kernel)
set_option maxRecDepth 20000 in
theorem gX0_valid_X0_fieldTry : GoodIn wsX0_valid (va_wsS RX0 27 yX0_fieldTry wsX0_fieldTry) := goodIn_app (goodIn_of _ (by decide +kernel)) ggX0_valid_X0_fieldTry
theorem dX0_valid_0 : decode cX0_valid 0 = .ok (.iload 5, 2) := by decide +kernel
theorem dX0_valid_2 : decode cX0_valid 2 = .ok (.ifCond .lt 35, 3) := by decide +kernel
theorem dX0_valid_5 : decode cX0_valid 5 = .ok (.iload_n 2, 1) := by decide +kernel
theorem dX0_valid_6 : decode cX0_valid 6 = .ok (.lload_n 3, 1) := by decide +kernel
theorem dX0_valid_7 : decode cX0_valid 7 = .ok (.invokestatic 20, 3) := by decide +kernel
theorem dX0_valid_10 : decode cX0_valid 10 = .ok (.if_icmp .ne 27, 3) := by decide +kernel
theorem dX0_valid_13 : decode cX0_valid 13 = .ok (.iload 5, 2) := by decide +kernel
theorem dX0_valid_15 : decode cX0_valid 15 = .ok (.lload_n 3, 1) := by decide +kernel
theorem dX0_valid_16 : decode cX0_valid 16 = .ok (.invokestatic 16, 3) := by decide +kernel
theorem dX0_valid_19 : decode cX0_valid 19 = .ok (.if_icmp .ne 18, 3) := by decide +kernel
theorem dX0_valid_22 : decode cX0_valid 22 = .ok (.iload_n 1, 1) := by decide +kernel
theorem dX0_valid_23 : decode cX0_valid 23 = .ok (.lload_n 3, 1) := by decide +kernel
theorem dX0_valid_24 : decode cX0_valid 24 = .ok (.iload_n 2, 1) := by decide +kernel
theorem dX0_valid_25 : decode cX0_valid 25 = .ok (.iload 5, 2) := by decide +kernel
theorem dX0_valid_27 : decode cX0_valid 27 = .ok (.invokestatic 27, 3) := by decide +kernel
theorem dX0_valid_30 : decode cX0_valid 30 = .ok (.if_icmp .ne 7, 3) := by decide +kernel
theorem dX0_valid_33 : decode cX0_valid 33 = .ok (.iconst 1, 1) := by decide +kernel
theorem dX0_valid_34 : decode cX0_valid 34 = .ok (.goto 4, 3) := by decide +kernel
theorem dX0_valid_37 : decode cX0_valid 37 = .ok (.iconst 0, 1) := by decide +kernel
theorem dX0_valid_38 : decode cX0_valid 38 = .ok (.ireturn, 1) := by decide +kernel
set_option maxRecDepth 20000 in
theorem ggX0_adopt_X0_isDomain : GoodIn wsX0_adopt wsX0_isDomain := goodIn_r _ [9, 10, 11, 8, 12, 13, 14, 15, 16] (by decide +kernel) (by decide +kernel)
set_option maxRecDepth 20000 in
theorem gX0_adopt_X0_isDomain : GoodIn wsX0_adopt (va_wsS RX0 57 yX0_isDomain wsX0_isDomain) := goodIn_app (goodIn_of _ (by decide +kernel)) ggX0_adopt_X0_isDomain
set_option maxRecDepth 20000 in
theorem ggX0_adopt_X0_clearSlot : GoodIn wsX0_adopt wsX0_clearSlot := goodIn_r _ [20, 21, 22, 23, 24, 25, 26, 27, 28, 29, 30, 31] (by decide +kernel) (by decide +kernel)
set_option maxRecDepth 20000 in
theorem gX0_adopt_X0_clearSlot : GoodIn wsX0_adopt (wsV RX0 72 RX0 yX0_clearSlot wsX0_clearSlot) := goodIn_app (goodIn_of _ (by decide +kernel)) ggX0_adopt_X0_clearSlot
theorem dX0_adopt_0 : decode cX0_adopt 0 = .ok (.iload_n 1, 1) := by decide +kernel
theorem dX0_adopt_1 : decode cX0_adopt 1 = .ok (.iload_n 2, 1) := by decide +kernel
theorem dX0_adopt_2 : decode cX0_adopt 2 = .ok (.iload_n 3, 1) := by decide +kernel
theorem dX0_adopt_3 : decode cX0_adopt 3 = .ok (.invokestatic 57, 3) := by decide +kernel
theorem dX0_adopt_6 : decode cX0_adopt 6 = .ok (.ifCond .ne 13, 3) := by decide +kernel
theorem dX0_adopt_9 : decode cX0_adopt 9 = .ok (.new 48, 3) := by decide +kernel
theorem dX0_adopt_12 : decode cX0_adopt 12 = .ok (.dup, 1) := by decide +kernel
theorem dX0_adopt_13 : decode cX0_adopt 13 = .ok (.ldc 61, 2) := by decide +kernel
theorem dX0_adopt_15 : decode cX0_adopt 15 = .ok (.invokespecial 52, 3) := by decide +kernel
theorem dX0_adopt_18 : decode cX0_adopt 18 = .ok (.athrow, 1) := by decide +kernel
theorem dX0_adopt_19 : decode cX0_adopt 19 = .ok (.aload_n 0, 1) := by decide +kernel
theorem dX0_adopt_20 : decode cX0_adopt 20 = .ok (.iload_n 1, 1) := by decide +kernel
theorem dX0_adopt_21 : decode cX0_adopt 21 = .ok (.putfield 63, 3) := by decide +kernel
theorem dX0_adopt_24 : decode cX0_adopt 24 = .ok (.aload_n 0, 1) := by decide +kernel
theorem dX0_adopt_25 : decode cX0_adopt 25 = .ok (.iload_n 2, 1) := by decide +kernel
theorem dX0_adopt_26 : decode cX0_adopt 26 = .ok (.putfield 66, 3) := by decide +kernel
theorem dX0_adopt_29 : decode cX0_adopt 29 = .ok (.aload_n 0, 1) := by decide +kernel
theorem dX0_adopt_30 : decode cX0_adopt 30 = .ok (.iload_n 3, 1) := by decide +kernel
theorem dX0_adopt_31 : decode cX0_adopt 31 = .ok (.putfield 69, 3) := by decide +kernel
theorem dX0_adopt_34 : decode cX0_adopt 34 = .ok (.iconst 0, 1) := by decide +kernel
theorem dX0_adopt_35 : decode cX0_adopt 35 = .ok (.istore 4, 2) := by decide +kernel
theorem dX0_adopt_37 : decode cX0_adopt 37 = .ok (.iload 4, 2) := by decide +kernel
theorem dX0_adopt_39 : decode cX0_adopt 39 = .ok (.bipush 8, 2) := by decide +kernel
theorem dX0_adopt_41 : decode cX0_adopt 41 = .ok (.if_icmp .ge 15, 3) := by decide +kernel
theorem dX0_adopt_44 : decode cX0_adopt 44 = .ok (.aload_n 0, 1) := by decide +kernel
theorem dX0_adopt_45 : decode cX0_adopt 45 = .ok (.iload 4, 2) := by decide +kernel
theorem dX0_adopt_47 : decode cX0_adopt 47 = .ok (.invokevirtual 72, 3) := by decide +kernel
theorem dX0_adopt_50 : decode cX0_adopt 50 = .ok (.iinc 4 1, 3) := by decide +kernel
theorem dX0_adopt_53 : decode cX0_adopt 53 = .ok (.goto (-16), 3) := by decide +kernel
theorem dX0_adopt_56 : decode cX0_adopt 56 = .ok (.return_, 1) := by decide +kernel
theorem dX0_domain_0 : decode cX0_domain 0 = .ok (.iload_n 1, 1) := by decide +kernel
theorem dX0_domain_1 : decode cX0_domain 1 = .ok (.tableswitch 42 0 2 #[27, 32, 37], 27) := by decide +kernel
theorem dX0_domain_28 : decode cX0_domain 28 = .ok (.aload_n 0, 1) := by decide +kernel
theorem dX0_domain_29 : decode cX0_domain 29 = .ok (.getfield 63, 3) := by decide +kernel
theorem dX0_domain_32 : decode cX0_domain 32 = .ok (.ireturn, 1) := by decide +kernel
theorem dX0_domain_33 : decode cX0_domain 33 = .ok (.aload_n 0, 1) := by decide +kernel
theorem dX0_domain_34 : decode cX0_domain 34 = .ok (.getfield 66, 3) := by decide +kernel
theorem dX0_domain_37 : decode cX0_domain 37 = .ok (.ireturn, 1) := by decide +kernel
theorem dX0_domain_38 : decode cX0_domain 38 = .ok (.aload_n 0, 1) := by decide +kernel
theorem dX0_domain_39 : decode cX0_domain 39 = .ok (.getfield 69, 3) := by decide +kernel
theorem dX0_domain_42 : decode cX0_domain 42 = .ok (.ireturn, 1) := by decide +kernel
theorem dX0_domain_43 : decode cX0_domain 43 = .ok (.iconst 0, 1) := by decide +kernel
theorem dX0_domain_44 : decode cX0_domain 44 = .ok (.ireturn, 1) := by decide +kernel
set_option maxRecDepth 20000 in
theorem ggX0_key_X0_requireDomain : GoodIn wsX0_key wsX0_requireDomain := goodIn_ca (goodIn_r _ [13, 14, 15, 8, 27, 28, 29, 30, 31, 32, 33, 34, 35] (by decide +kernel) (by decide +kernel)) (goodIn_sub (fun _ h => List.mem_cons_of_mem _ (List.mem_append_right _ h)) (by decide +kernel))
set_option maxRecDepth 20000 in
theorem gX0_key_X0_requireDomain : GoodIn wsX0_key (wsV RX0 76 RX0 yX0_requireDomain wsX0_requireDomain) := goodIn_app (goodIn_of _ (by decide +kernel)) ggX0_key_X0_requireDomain
set_option maxRecDepth 20000 in
theorem ggX0_key_X0_isSlot : GoodIn wsX0_key wsX0_isSlot := goodIn_r _ [18] (by decide +kernel) (by decide +kernel)
set_option maxRecDepth 20000 in
theorem gX0_key_X0_isSlot : GoodIn wsX0_key (va_wsS RX0 79 yX0_isSlot wsX0_isSlot) := goodIn_app (goodIn_of _ (by decide +kernel)) ggX0_key_X0_isSlot
set_option maxRecDepth 20000 in
theorem ggX0_key_X0_isExponent : GoodIn wsX0_key wsX0_isExponent := goodIn_r _ [22, 23, 27, 28, 29, 30, 31, 32, 33, 34, 35] (by decide +kernel) (by decide +kernel)
set_option maxRecDepth 20000 in
theorem gX0_key_X0_isExponent : GoodIn wsX0_key (wsV RX0 88 RX0 yX0_isExponent wsX0_isExponent) := goodIn_app (goodIn_of _ (by decide +kernel)) ggX0_key_X0_isExponent
set_option maxRecDepth 20000 in
theorem ggX0_key_X0_power : GoodIn wsX0_key wsX0_power := goodIn_r _ [26] (by decide +kernel) (by decide +kernel)
set_option maxRecDepth 20000 in
theorem gX0_key_X0_power : GoodIn wsX0_key (va_wsS RX0 93 yX0_power wsX0_power) := goodIn_app (goodIn_of _ (by decide +kernel)) ggX0_key_X0_power
theorem dX0_key_0 : decode cX0_key 0 = .ok (.aload_n 0, 1) := by decide +kernel
theorem dX0_key_1 : decode cX0_key 1 = .ok (.invokevirtual 76, 3) := by decide +kernel
theorem dX0_key_4 : decode cX0_key 4 = .ok (.iload_n 1, 1) := by decide +kernel
theorem dX0_key_5 : decode cX0_key 5 = .ok (.invokestatic 79, 3) := by decide +kernel
theorem dX0_key_8 : decode cX0_key 8 = .ok (.ifCond .ne 13, 3) := by decide +kernel
theorem dX0_key_11 : decode cX0_key 11 = .ok (.new 83, 3) := by decide +kernel
theorem dX0_key_14 : decode cX0_key 14 = .ok (.dup, 1) := by decide +kernel
theorem dX0_key_15 : decode cX0_key 15 = .ok (.ldc 85, 2) := by decide +kernel
theorem dX0_key_17 : decode cX0_key 17 = .ok (.invokespecial 87, 3) := by decide +kernel
theorem dX0_key_20 : decode cX0_key 20 = .ok (.athrow, 1) := by decide +kernel
theorem dX0_key_21 : decode cX0_key 21 = .ok (.aload_n 0, 1) := by decide +kernel
theorem dX0_key_22 : decode cX0_key 22 = .ok (.iload_n 2, 1) := by decide +kernel
theorem dX0_key_23 : decode cX0_key 23 = .ok (.invokevirtual 88, 3) := by decide +kernel
theorem dX0_key_26 : decode cX0_key 26 = .ok (.ifCond .ne 13, 3) := by decide +kernel
theorem dX0_key_29 : decode cX0_key 29 = .ok (.new 48, 3) := by decide +kernel
theorem dX0_key_32 : decode cX0_key 32 = .ok (.dup, 1) := by decide +kernel
theorem dX0_key_33 : decode cX0_key 33 = .ok (.ldc 91, 2) := by decide +kernel
theorem dX0_key_35 : decode cX0_key 35 = .ok (.invokespecial 52, 3) := by decide +kernel
theorem dX0_key_38 : decode cX0_key 38 = .ok (.athrow, 1) := by decide +kernel
theorem dX0_key_39 : decode cX0_key 39 = .ok (.aload_n 0, 1) := by decide +kernel
theorem dX0_key_40 : decode cX0_key 40 = .ok (.getfield 9, 3) := by decide +kernel
theorem dX0_key_43 : decode cX0_key 43 = .ok (.iload_n 1, 1) := by decide +kernel
theorem dX0_key_44 : decode cX0_key 44 = .ok (.iload_n 2, 1) := by decide +kernel
theorem dX0_key_45 : decode cX0_key 45 = .ok (.iastore, 1) := by decide +kernel
theorem dX0_key_46 : decode cX0_key 46 = .ok (.aload_n 0, 1) := by decide +kernel
theorem dX0_key_47 : decode cX0_key 47 = .ok (.getfield 13, 3) := by decide +kernel
theorem dX0_key_50 : decode cX0_key 50 = .ok (.iload_n 1, 1) := by decide +kernel
theorem dX0_key_51 : decode cX0_key 51 = .ok (.aload_n 0, 1) := by decide +kernel
theorem dX0_key_52 : decode cX0_key 52 = .ok (.getfield 69, 3) := by decide +kernel
theorem dX0_key_55 : decode cX0_key 55 = .ok (.iload_n 2, 1) := by decide +kernel
theorem dX0_key_56 : decode cX0_key 56 = .ok (.aload_n 0, 1) := by decide +kernel
theorem dX0_key_57 : decode cX0_key 57 = .ok (.getfield 63, 3) := by decide +kernel
theorem dX0_key_60 : decode cX0_key 60 = .ok (.invokestatic 93, 3) := by decide +kernel
theorem dX0_key_63 : decode cX0_key 63 = .ok (.iastore, 1) := by decide +kernel
theorem dX0_key_64 : decode cX0_key 64 = .ok (.aload_n 0, 1) := by decide +kernel
theorem dX0_key_65 : decode cX0_key 65 = .ok (.getfield 13, 3) := by decide +kernel
theorem dX0_key_68 : decode cX0_key 68 = .ok (.iload_n 1, 1) := by decide +kernel
theorem dX0_key_69 : decode cX0_key 69 = .ok (.iaload, 1) := by decide +kernel
theorem dX0_key_70 : decode cX0_key 70 = .ok (.ireturn, 1) := by decide +kernel
set_option maxRecDepth 20000 in
theorem ggX0_publicNumber_X0_requireKey : GoodIn wsX0_publicNumber wsX0_requireKey := goodIn_ca (goodIn_r _ [6, 7, 8, 9, 10, 11, 5, 12, 13, 14, 15, 16, 17, 18, 19, 20, 21] (by decide +kernel) (by decide +kernel)) (goodIn_sub (fun _ h => List.mem_cons_of_mem _ (List.mem_append_right _ h)) (by decide +kernel))
set_option maxRecDepth 20000 in
theorem gX0_publicNumber_X0_requireKey : GoodIn wsX0_publicNumber (wsV RX0 97 RX0 yX0_requireKey wsX0_requireKey) := goodIn_app (goodIn_of _ (by decide +kernel)) ggX0_publicNumber_X0_requireKey
theorem dX0_publicNumber_0 : decode cX0_publicNumber 0 = .ok (.aload_n 0, 1) := by decide +kernel
theorem dX0_publicNumber_1 : decode cX0_publicNumber 1 = .ok (.iload_n 1, 1) := by decide +kernel
theorem dX0_publicNumber_2 : decode cX0_publicNumber 2 = .ok (.invokevirtual 97, 3) := by decide +kernel
theorem dX0_publicNumber_5 : decode cX0_publicNumber 5 = .ok (.aload_n 0, 1) := by decide +kernel
theorem dX0_publicNumber_6 : decode cX0_publicNumber 6 = .ok (.getfield 13, 3) := by decide +kernel
theorem dX0_publicNumber_9 : decode cX0_publicNumber 9 = .ok (.iload_n 1, 1) := by decide +kernel
theorem dX0_publicNumber_10 : decode cX0_publicNumber 10 = .ok (.iaload, 1) := by decide +kernel
theorem dX0_publicNumber_11 : decode cX0_publicNumber 11 = .ok (.ireturn, 1) := by decide +kernel
set_option maxRecDepth 20000 in
theorem ggX0_forget_X0_requireKey : GoodIn wsX0_forget wsX0_requireKey := goodIn_ca (goodIn_r _ [5, 6, 7, 8, 9, 10, 4, 11, 17, 18, 19, 20, 21, 22, 23, 24, 25] (by decide +kernel) (by decide +kernel)) (goodIn_sub (fun _ h => List.mem_cons_of_mem _ (List.mem_append_right _ h)) (by decide +kernel))
set_option maxRecDepth 20000 in
theorem gX0_forget_X0_requireKey : GoodIn wsX0_forget (wsV RX0 97 RX0 yX0_requireKey wsX0_requireKey) := goodIn_app (goodIn_of _ (by decide +kernel)) ggX0_forget_X0_requireKey
set_option maxRecDepth 20000 in
theorem ggX0_forget_X0_clearSlot : GoodIn wsX0_forget wsX0_clearSlot := goodIn_r _ [15, 8, 16, 17, 18, 19, 20, 21, 22, 23, 24, 25] (by decide +kernel) (by decide +kernel)
set_option maxRecDepth 20000 in
theorem gX0_forget_X0_clearSlot : GoodIn wsX0_forget (wsV RX0 72 RX0 yX0_clearSlot wsX0_clearSlot) := goodIn_app (goodIn_of _ (by decide +kernel)) ggX0_forget_X0_clearSlot
theorem dX0_forget_0 : decode cX0_forget 0 = .ok (.aload_n 0, 1) := by decide +kernel
theorem dX0_forget_1 : decode cX0_forget 1 = .ok (.iload_n 1, 1) := by decide +kernel
theorem dX0_forget_2 : decode cX0_forget 2 = .ok (.invokevirtual 97, 3) := by decide +kernel
theorem dX0_forget_5 : decode cX0_forget 5 = .ok (.aload_n 0, 1) := by decide +kernel
theorem dX0_forget_6 : decode cX0_forget 6 = .ok (.iload_n 1, 1) := by decide +kernel
theorem dX0_forget_7 : decode cX0_forget 7 = .ok (.invokevirtual 72, 3) := by decide +kernel
theorem dX0_forget_10 : decode cX0_forget 10 = .ok (.return_, 1) := by decide +kernel
set_option maxRecDepth 20000 in
theorem ggX0_fits_X0_requireDomain : GoodIn wsX0_fits wsX0_requireDomain := goodIn_ca (goodIn_r _ [7, 8, 9, 2, 17, 18, 19, 20, 21, 22, 23, 24, 25] (by decide +kernel) (by decide +kernel)) (goodIn_sub (fun _ h => List.mem_cons_of_mem _ (List.mem_append_right _ h)) (by decide +kernel))
set_option maxRecDepth 20000 in
theorem gX0_fits_X0_requireDomain : GoodIn wsX0_fits (wsV RX0 76 RX0 yX0_requireDomain wsX0_requireDomain) := goodIn_app (goodIn_of _ (by decide +kernel)) ggX0_fits_X0_requireDomain
set_option maxRecDepth 20000 in
theorem ggX0_fits_X0_isPeer : GoodIn wsX0_fits wsX0_isPeer := goodIn_r _ [13, 2, 17, 18, 19, 20, 21, 22, 23, 24, 25] (by decide +kernel) (by decide +kernel)
set_option maxRecDepth 20000 in
theorem gX0_fits_X0_isPeer : GoodIn wsX0_fits (wsV RX0 100 RX0 yX0_isPeer wsX0_isPeer) := goodIn_app (goodIn_of _ (by decide +kernel)) ggX0_fits_X0_isPeer
set_option maxRecDepth 20000 in
theorem ggX0_fits_X0_power : GoodIn wsX0_fits wsX0_power := goodIn_r _ [16] (by decide +kernel) (by decide +kernel)
set_option maxRecDepth 20000 in
theorem gX0_fits_X0_power : GoodIn wsX0_fits (va_wsS RX0 93 yX0_power wsX0_power) := goodIn_app (goodIn_of _ (by decide +kernel)) ggX0_fits_X0_power
theorem dX0_fits_0 : decode cX0_fits 0 = .ok (.aload_n 0, 1) := by decide +kernel
theorem dX0_fits_1 : decode cX0_fits 1 = .ok (.invokevirtual 76, 3) := by decide +kernel
theorem dX0_fits_4 : decode cX0_fits 4 = .ok (.aload_n 0, 1) := by decide +kernel
theorem dX0_fits_5 : decode cX0_fits 5 = .ok (.iload_n 1, 1) := by decide +kernel
theorem dX0_fits_6 : decode cX0_fits 6 = .ok (.invokevirtual 100, 3) := by decide +kernel
theorem dX0_fits_9 : decode cX0_fits 9 = .ok (.ifCond .eq 23, 3) := by decide +kernel
theorem dX0_fits_12 : decode cX0_fits 12 = .ok (.iload_n 1, 1) := by decide +kernel
theorem dX0_fits_13 : decode cX0_fits 13 = .ok (.aload_n 0, 1) := by decide +kernel
theorem dX0_fits_14 : decode cX0_fits 14 = .ok (.getfield 66, 3) := by decide +kernel
theorem dX0_fits_17 : decode cX0_fits 17 = .ok (.aload_n 0, 1) := by decide +kernel
theorem dX0_fits_18 : decode cX0_fits 18 = .ok (.getfield 63, 3) := by decide +kernel
theorem dX0_fits_21 : decode cX0_fits 21 = .ok (.invokestatic 93, 3) := by decide +kernel
theorem dX0_fits_24 : decode cX0_fits 24 = .ok (.iconst 1, 1) := by decide +kernel
theorem dX0_fits_25 : decode cX0_fits 25 = .ok (.if_icmp .ne 7, 3) := by decide +kernel
theorem dX0_fits_28 : decode cX0_fits 28 = .ok (.iconst 1, 1) := by decide +kernel
theorem dX0_fits_29 : decode cX0_fits 29 = .ok (.goto 4, 3) := by decide +kernel
theorem dX0_fits_32 : decode cX0_fits 32 = .ok (.iconst 0, 1) := by decide +kernel
theorem dX0_fits_33 : decode cX0_fits 33 = .ok (.ireturn, 1) := by decide +kernel
set_option maxRecDepth 20000 in
theorem ggX0_digest_X0_mix : GoodIn wsX0_digest wsX0_mix := goodIn_r _ [5, 6, 7, 8] (by decide +kernel) (by decide +kernel)
set_option maxRecDepth 20000 in
theorem gX0_digest_X0_mix : GoodIn wsX0_digest (va_wsS RX0 105 yX0_mix wsX0_mix) := goodIn_app (goodIn_of _ (by decide +kernel)) ggX0_digest_X0_mix
theorem dX0_digest_0 : decode cX0_digest 0 = .ok (.lload_n 1, 1) := by decide +kernel
theorem dX0_digest_1 : decode cX0_digest 1 = .ok (.ldc2_w 103, 3) := by decide +kernel
theorem dX0_digest_4 : decode cX0_digest 4 = .ok (.invokestatic 105, 3) := by decide +kernel
theorem dX0_digest_7 : decode cX0_digest 7 = .ok (.bipush 49, 2) := by decide +kernel
theorem dX0_digest_9 : decode cX0_digest 9 = .ok (.lushr, 1) := by decide +kernel
theorem dX0_digest_10 : decode cX0_digest 10 = .ok (.l2i, 1) := by decide +kernel
theorem dX0_digest_11 : decode cX0_digest 11 = .ok (.ireturn, 1) := by decide +kernel
set_option maxRecDepth 20000 in
theorem ggX0_sign_X0_requireKey : GoodIn wsX0_sign wsX0_requireKey := goodIn_ca (goodIn_r _ [13, 14, 15, 8, 16, 17, 12, 18, 40, 41, 42, 43, 44, 45, 46, 47, 48] (by decide +kernel) (by decide +kernel)) (goodIn_sub (fun _ h => List.mem_cons_of_mem _ (List.mem_append_right _ h)) (by decide +kernel))
set_option maxRecDepth 20000 in
theorem gX0_sign_X0_requireKey : GoodIn wsX0_sign (wsV RX0 97 RX0 yX0_requireKey wsX0_requireKey) := goodIn_app (goodIn_of _ (by decide +kernel)) ggX0_sign_X0_requireKey
set_option maxRecDepth 20000 in
theorem ggX0_sign_X0_isExponent : GoodIn wsX0_sign wsX0_isExponent := goodIn_r _ [22, 7, 40, 41, 42, 43, 44, 45, 46, 47, 48] (by decide +kernel) (by decide +kernel)
set_option maxRecDepth 20000 in
theorem gX0_sign_X0_isExponent : GoodIn wsX0_sign (wsV RX0 88 RX0 yX0_isExponent wsX0_isExponent) := goodIn_app (goodIn_of _ (by decide +kernel)) ggX0_sign_X0_isExponent
set_option maxRecDepth 20000 in
theorem ggX0_sign_X0_power : GoodIn wsX0_sign wsX0_power := goodIn_r _ [25] (by decide +kernel) (by decide +kernel)
set_option maxRecDepth 20000 in
theorem gX0_sign_X0_power : GoodIn wsX0_sign (va_wsS RX0 93 yX0_power wsX0_power) := goodIn_app (goodIn_of _ (by decide +kernel)) ggX0_sign_X0_power
set_option maxRecDepth 20000 in
theorem ggX0_sign_X0_digest : GoodIn wsX0_sign wsX0_digest := goodIn_r _ [29, 30, 31, 32, 12, 33, 34, 35, 36] (by decide +kernel) (by decide +kernel)
set_option maxRecDepth 20000 in
theorem gX0_sign_X0_digest : GoodIn wsX0_sign (wsV RX0 111 RX0 yX0_digest wsX0_digest) := goodIn_app (goodIn_of _ (by decide +kernel)) ggX0_sign_X0_digest
set_option maxRecDepth 20000 in
theorem ggX0_sign_X0_inverse : GoodIn wsX0_sign wsX0_inverse := goodIn_r _ [39, 23, 24, 12, 25] (by decide +kernel) (by decide +kernel)
set_option maxRecDepth 20000 in
theorem gX0_sign_X0_inverse : GoodIn wsX0_sign (va_wsS RX0 114 yX0_inverse wsX0_inverse) := goodIn_app (goodIn_of _ (by decide +kernel)) ggX0_sign_X0_inverse
theorem dX0_sign_0 : decode cX0_sign 0 = .ok (.aload_n 0, 1) := by decide +kernel
theorem dX0_sign_1 : decode cX0_sign 1 = .ok (.iload_n 1, 1) := by decide +kernel
theorem dX0_sign_2 : decode cX0_sign 2 = .ok (.invokevirtual 97, 3) := by decide +kernel
theorem dX0_sign_5 : decode cX0_sign 5 = .ok (.aload_n 0, 1) := by decide +kernel
theorem dX0_sign_6 : decode cX0_sign 6 = .ok (.iload 4, 2) := by decide +kernel
theorem dX0_sign_8 : decode cX0_sign 8 = .ok (.invokevirtual 88, 3) := by decide +kernel
theorem dX0_sign_11 : decode cX0_sign 11 = .ok (.ifCond .ne 13, 3) := by decide +kernel
theorem dX0_sign_14 : decode cX0_sign 14 = .ok (.new 48, 3) := by decide +kernel
theorem dX0_sign_17 : decode cX0_sign 17 = .ok (.dup, 1) := by decide +kernel
theorem dX0_sign_18 : decode cX0_sign 18 = .ok (.ldc 109, 2) := by decide +kernel
theorem dX0_sign_20 : decode cX0_sign 20 = .ok (.invokespecial 52, 3) := by decide +kernel
theorem dX0_sign_23 : decode cX0_sign 23 = .ok (.athrow, 1) := by decide +kernel
theorem dX0_sign_24 : decode cX0_sign 24 = .ok (.aload_n 0, 1) := by decide +kernel
theorem dX0_sign_25 : decode cX0_sign 25 = .ok (.getfield 69, 3) := by decide +kernel
theorem dX0_sign_28 : decode cX0_sign 28 = .ok (.iload 4, 2) := by decide +kernel
theorem dX0_sign_30 : decode cX0_sign 30 = .ok (.aload_n 0, 1) := by decide +kernel
theorem dX0_sign_31 : decode cX0_sign 31 = .ok (.getfield 63, 3) := by decide +kernel
theorem dX0_sign_34 : decode cX0_sign 34 = .ok (.invokestatic 93, 3) := by decide +kernel
theorem dX0_sign_37 : decode cX0_sign 37 = .ok (.aload_n 0, 1) := by decide +kernel
theorem dX0_sign_38 : decode cX0_sign 38 = .ok (.getfield 66, 3) := by decide +kernel
theorem dX0_sign_41 : decode cX0_sign 41 = .ok (.irem, 1) := by decide +kernel
theorem dX0_sign_42 : decode cX0_sign 42 = .ok (.i2l, 1) := by decide +kernel
theorem dX0_sign_43 : decode cX0_sign 43 = .ok (.lstore 5, 2) := by decide +kernel
theorem dX0_sign_45 : decode cX0_sign 45 = .ok (.aload_n 0, 1) := by decide +kernel
theorem dX0_sign_46 : decode cX0_sign 46 = .ok (.lload_n 2, 1) := by decide +kernel
theorem dX0_sign_47 : decode cX0_sign 47 = .ok (.invokevirtual 111, 3) := by decide +kernel
theorem dX0_sign_50 : decode cX0_sign 50 = .ok (.i2l, 1) := by decide +kernel
theorem dX0_sign_51 : decode cX0_sign 51 = .ok (.aload_n 0, 1) := by decide +kernel
theorem dX0_sign_52 : decode cX0_sign 52 = .ok (.getfield 9, 3) := by decide +kernel
theorem dX0_sign_55 : decode cX0_sign 55 = .ok (.iload_n 1, 1) := by decide +kernel
theorem dX0_sign_56 : decode cX0_sign 56 = .ok (.iaload, 1) := by decide +kernel
theorem dX0_sign_57 : decode cX0_sign 57 = .ok (.i2l, 1) := by decide +kernel
theorem dX0_sign_58 : decode cX0_sign 58 = .ok (.lload 5, 2) := by decide +kernel
theorem dX0_sign_60 : decode cX0_sign 60 = .ok (.lmul, 1) := by decide +kernel
theorem dX0_sign_61 : decode cX0_sign 61 = .ok (.ladd, 1) := by decide +kernel
theorem dX0_sign_62 : decode cX0_sign 62 = .ok (.lstore 7, 2) := by decide +kernel
theorem dX0_sign_64 : decode cX0_sign 64 = .ok (.lload 7, 2) := by decide +kernel
theorem dX0_sign_66 : decode cX0_sign 66 = .ok (.aload_n 0, 1) := by decide +kernel
theorem dX0_sign_67 : decode cX0_sign 67 = .ok (.getfield 66, 3) := by decide +kernel
theorem dX0_sign_70 : decode cX0_sign 70 = .ok (.i2l, 1) := by decide +kernel
theorem dX0_sign_71 : decode cX0_sign 71 = .ok (.lrem, 1) := by decide +kernel
theorem dX0_sign_72 : decode cX0_sign 72 = .ok (.iload 4, 2) := by decide +kernel
theorem dX0_sign_74 : decode cX0_sign 74 = .ok (.aload_n 0, 1) := by decide +kernel
theorem dX0_sign_75 : decode cX0_sign 75 = .ok (.getfield 66, 3) := by decide +kernel
theorem dX0_sign_78 : decode cX0_sign 78 = .ok (.invokestatic 114, 3) := by decide +kernel
theorem dX0_sign_81 : decode cX0_sign 81 = .ok (.i2l, 1) := by decide +kernel
theorem dX0_sign_82 : decode cX0_sign 82 = .ok (.lmul, 1) := by decide +kernel
theorem dX0_sign_83 : decode cX0_sign 83 = .ok (.aload_n 0, 1) := by decide +kernel
theorem dX0_sign_84 : decode cX0_sign 84 = .ok (.getfield 66, 3) := by decide +kernel
theorem dX0_sign_87 : decode cX0_sign 87 = .ok (.i2l, 1) := by decide +kernel
theorem dX0_sign_88 : decode cX0_sign 88 = .ok (.lrem, 1) := by decide +kernel
theorem dX0_sign_89 : decode cX0_sign 89 = .ok (.lstore 9, 2) := by decide +kernel
theorem dX0_sign_91 : decode cX0_sign 91 = .ok (.lload 5, 2) := by decide +kernel
theorem dX0_sign_93 : decode cX0_sign 93 = .ok (.lconst 0, 1) := by decide +kernel
theorem dX0_sign_94 : decode cX0_sign 94 = .ok (.lcmp, 1) := by decide +kernel
theorem dX0_sign_95 : decode cX0_sign 95 = .ok (.ifCond .eq 10, 3) := by decide +kernel
theorem dX0_sign_98 : decode cX0_sign 98 = .ok (.lload 9, 2) := by decide +kernel
theorem dX0_sign_100 : decode cX0_sign 100 = .ok (.lconst 0, 1) := by decide +kernel
theorem dX0_sign_101 : decode cX0_sign 101 = .ok (.lcmp, 1) := by decide +kernel
theorem dX0_sign_102 : decode cX0_sign 102 = .ok (.ifCond .ne 13, 3) := by decide +kernel
theorem dX0_sign_105 : decode cX0_sign 105 = .ok (.new 118, 3) := by decide +kernel
theorem dX0_sign_108 : decode cX0_sign 108 = .ok (.dup, 1) := by decide +kernel
theorem dX0_sign_109 : decode cX0_sign 109 = .ok (.ldc 120, 2) := by decide +kernel
theorem dX0_sign_111 : decode cX0_sign 111 = .ok (.invokespecial 122, 3) := by decide +kernel
theorem dX0_sign_114 : decode cX0_sign 114 = .ok (.athrow, 1) := by decide +kernel
theorem dX0_sign_115 : decode cX0_sign 115 = .ok (.lload 5, 2) := by decide +kernel
theorem dX0_sign_117 : decode cX0_sign 117 = .ok (.bipush 32, 2) := by decide +kernel
theorem dX0_sign_119 : decode cX0_sign 119 = .ok (.lshl, 1) := by decide +kernel
theorem dX0_sign_120 : decode cX0_sign 120 = .ok (.lload 9, 2) := by decide +kernel
theorem dX0_sign_122 : decode cX0_sign 122 = .ok (.ladd, 1) := by decide +kernel
theorem dX0_sign_123 : decode cX0_sign 123 = .ok (.lreturn, 1) := by decide +kernel
set_option maxRecDepth 20000 in
theorem ggX0_verify_X0_requireDomain : GoodIn wsX0_verify wsX0_requireDomain := goodIn_ca (goodIn_r _ [8, 9, 10, 1, 32, 33, 34, 35, 36, 37, 38, 39, 40] (by decide +kernel) (by decide +kernel)) (goodIn_sub (fun _ h => List.mem_cons_of_mem _ (List.mem_append_right _ h)) (by decide +kernel))
set_option maxRecDepth 20000 in
theorem gX0_verify_X0_requireDomain : GoodIn wsX0_verify (wsV RX0 76 RX0 yX0_requireDomain wsX0_requireDomain) := goodIn_app (goodIn_of _ (by decide +kernel)) ggX0_verify_X0_requireDomain
set_option maxRecDepth 20000 in
theorem ggX0_verify_X0_isExponent : GoodIn wsX0_verify wsX0_isExponent := goodIn_r _ [14, 2, 32, 33, 34, 35, 36, 37, 38, 39, 40] (by decide +kernel) (by decide +kernel)
set_option maxRecDepth 20000 in
theorem gX0_verify_X0_isExponent : GoodIn wsX0_verify (wsV RX0 88 RX0 yX0_isExponent wsX0_isExponent) := goodIn_app (goodIn_of _ (by decide +kernel)) ggX0_verify_X0_isExponent
set_option maxRecDepth 20000 in
theorem ggX0_verify_X0_inverse : GoodIn wsX0_verify wsX0_inverse := goodIn_r _ [17, 18, 19, 7, 20] (by decide +kernel) (by decide +kernel)
set_option maxRecDepth 20000 in
theorem gX0_verify_X0_inverse : GoodIn wsX0_verify (va_wsS RX0 114 yX0_inverse wsX0_inverse) := goodIn_app (goodIn_of _ (by decide +kernel)) ggX0_verify_X0_inverse
set_option maxRecDepth 20000 in
theorem ggX0_verify_X0_digest : GoodIn wsX0_verify wsX0_digest := goodIn_r _ [24, 25, 26, 27, 7, 28, 29, 30, 31] (by decide +kernel) (by decide +kernel)
set_option maxRecDepth 20000 in
theorem gX0_verify_X0_digest : GoodIn wsX0_verify (wsV RX0 111 RX0 yX0_digest wsX0_digest) := goodIn_app (goodIn_of _ (by decide +kernel)) ggX0_verify_X0_digest
set_option maxRecDepth 20000 in
theorem ggX0_verify_X0_power : GoodIn wsX0_verify wsX0_power := goodIn_r _ [20] (by decide +kernel) (by decide +kernel)
set_option maxRecDepth 20000 in
theorem gX0_verify_X0_power : GoodIn wsX0_verify (va_wsS RX0 93 yX0_power wsX0_power) := goodIn_app (goodIn_of _ (by decide +kernel)) ggX0_verify_X0_power
theorem dX0_verify_0 : decode cX0_verify 0 = .ok (.aload_n 0, 1) := by decide +kernel
theorem dX0_verify_1 : decode cX0_verify 1 = .ok (.invokevirtual 76, 3) := by decide +kernel
theorem dX0_verify_4 : decode cX0_verify 4 = .ok (.iload_n 1, 1) := by decide +kernel
theorem dX0_verify_5 : decode cX0_verify 5 = .ok (.iconst 1, 1) := by decide +kernel
theorem dX0_verify_6 : decode cX0_verify 6 = .ok (.if_icmp .lt 29, 3) := by decide +kernel
theorem dX0_verify_9 : decode cX0_verify 9 = .ok (.iload_n 1, 1) := by decide +kernel
theorem dX0_verify_10 : decode cX0_verify 10 = .ok (.aload_n 0, 1) := by decide +kernel
theorem dX0_verify_11 : decode cX0_verify 11 = .ok (.getfield 63, 3) := by decide +kernel
theorem dX0_verify_14 : decode cX0_verify 14 = .ok (.if_icmp .ge 21, 3) := by decide +kernel
theorem dX0_verify_17 : decode cX0_verify 17 = .ok (.aload_n 0, 1) := by decide +kernel
theorem dX0_verify_18 : decode cX0_verify 18 = .ok (.iload 4, 2) := by decide +kernel
theorem dX0_verify_20 : decode cX0_verify 20 = .ok (.invokevirtual 88, 3) := by decide +kernel
theorem dX0_verify_23 : decode cX0_verify 23 = .ok (.ifCond .eq 12, 3) := by decide +kernel
theorem dX0_verify_26 : decode cX0_verify 26 = .ok (.aload_n 0, 1) := by decide +kernel
theorem dX0_verify_27 : decode cX0_verify 27 = .ok (.iload 5, 2) := by decide +kernel
theorem dX0_verify_29 : decode cX0_verify 29 = .ok (.invokevirtual 88, 3) := by decide +kernel
theorem dX0_verify_32 : decode cX0_verify 32 = .ok (.ifCond .ne 5, 3) := by decide +kernel
theorem dX0_verify_35 : decode cX0_verify 35 = .ok (.iconst 0, 1) := by decide +kernel
theorem dX0_verify_36 : decode cX0_verify 36 = .ok (.ireturn, 1) := by decide +kernel
theorem dX0_verify_37 : decode cX0_verify 37 = .ok (.iload 5, 2) := by decide +kernel
theorem dX0_verify_39 : decode cX0_verify 39 = .ok (.aload_n 0, 1) := by decide +kernel
theorem dX0_verify_40 : decode cX0_verify 40 = .ok (.getfield 66, 3) := by decide +kernel
theorem dX0_verify_43 : decode cX0_verify 43 = .ok (.invokestatic 114, 3) := by decide +kernel
theorem dX0_verify_46 : decode cX0_verify 46 = .ok (.i2l, 1) := by decide +kernel
theorem dX0_verify_47 : decode cX0_verify 47 = .ok (.lstore 6, 2) := by decide +kernel
theorem dX0_verify_49 : decode cX0_verify 49 = .ok (.aload_n 0, 1) := by decide +kernel
theorem dX0_verify_50 : decode cX0_verify 50 = .ok (.lload_n 2, 1) := by decide +kernel
theorem dX0_verify_51 : decode cX0_verify 51 = .ok (.invokevirtual 111, 3) := by decide +kernel
theorem dX0_verify_54 : decode cX0_verify 54 = .ok (.i2l, 1) := by decide +kernel
theorem dX0_verify_55 : decode cX0_verify 55 = .ok (.lload 6, 2) := by decide +kernel
theorem dX0_verify_57 : decode cX0_verify 57 = .ok (.lmul, 1) := by decide +kernel
theorem dX0_verify_58 : decode cX0_verify 58 = .ok (.aload_n 0, 1) := by decide +kernel
theorem dX0_verify_59 : decode cX0_verify 59 = .ok (.getfield 66, 3) := by decide +kernel
theorem dX0_verify_62 : decode cX0_verify 62 = .ok (.i2l, 1) := by decide +kernel
theorem dX0_verify_63 : decode cX0_verify 63 = .ok (.lrem, 1) := by decide +kernel
theorem dX0_verify_64 : decode cX0_verify 64 = .ok (.l2i, 1) := by decide +kernel
theorem dX0_verify_65 : decode cX0_verify 65 = .ok (.istore 8, 2) := by decide +kernel
theorem dX0_verify_67 : decode cX0_verify 67 = .ok (.iload 4, 2) := by decide +kernel
theorem dX0_verify_69 : decode cX0_verify 69 = .ok (.i2l, 1) := by decide +kernel
theorem dX0_verify_70 : decode cX0_verify 70 = .ok (.lload 6, 2) := by decide +kernel
theorem dX0_verify_72 : decode cX0_verify 72 = .ok (.lmul, 1) := by decide +kernel
theorem dX0_verify_73 : decode cX0_verify 73 = .ok (.aload_n 0, 1) := by decide +kernel
theorem dX0_verify_74 : decode cX0_verify 74 = .ok (.getfield 66, 3) := by decide +kernel
theorem dX0_verify_77 : decode cX0_verify 77 = .ok (.i2l, 1) := by decide +kernel
theorem dX0_verify_78 : decode cX0_verify 78 = .ok (.lrem, 1) := by decide +kernel
theorem dX0_verify_79 : decode cX0_verify 79 = .ok (.l2i, 1) := by decide +kernel
theorem dX0_verify_80 : decode cX0_verify 80 = .ok (.istore 9, 2) := by decide +kernel
theorem dX0_verify_82 : decode cX0_verify 82 = .ok (.aload_n 0, 1) := by decide +kernel
theorem dX0_verify_83 : decode cX0_verify 83 = .ok (.getfield 69, 3) := by decide +kernel
theorem dX0_verify_86 : decode cX0_verify 86 = .ok (.iload 8, 2) := by decide +kernel
theorem dX0_verify_88 : decode cX0_verify 88 = .ok (.aload_n 0, 1) := by decide +kernel
theorem dX0_verify_89 : decode cX0_verify 89 = .ok (.getfield 63, 3) := by decide +kernel
theorem dX0_verify_92 : decode cX0_verify 92 = .ok (.invokestatic 93, 3) := by decide +kernel
theorem dX0_verify_95 : decode cX0_verify 95 = .ok (.i2l, 1) := by decide +kernel
theorem dX0_verify_96 : decode cX0_verify 96 = .ok (.iload_n 1, 1) := by decide +kernel
theorem dX0_verify_97 : decode cX0_verify 97 = .ok (.iload 9, 2) := by decide +kernel
theorem dX0_verify_99 : decode cX0_verify 99 = .ok (.aload_n 0, 1) := by decide +kernel
theorem dX0_verify_100 : decode cX0_verify 100 = .ok (.getfield 63, 3) := by decide +kernel
theorem dX0_verify_103 : decode cX0_verify 103 = .ok (.invokestatic 93, 3) := by decide +kernel
theorem dX0_verify_106 : decode cX0_verify 106 = .ok (.i2l, 1) := by decide +kernel
theorem dX0_verify_107 : decode cX0_verify 107 = .ok (.lmul, 1) := by decide +kernel
theorem dX0_verify_108 : decode cX0_verify 108 = .ok (.aload_n 0, 1) := by decide +kernel
theorem dX0_verify_109 : decode cX0_verify 109 = .ok (.getfield 63, 3) := by decide +kernel
theorem dX0_verify_112 : decode cX0_verify 112 = .ok (.i2l, 1) := by decide +kernel
theorem dX0_verify_113 : decode cX0_verify 113 = .ok (.lrem, 1) := by decide +kernel
theorem dX0_verify_114 : decode cX0_verify 114 = .ok (.lstore 10, 2) := by decide +kernel
theorem dX0_verify_116 : decode cX0_verify 116 = .ok (.iload 4, 2) := by decide +kernel
theorem dX0_verify_118 : decode cX0_verify 118 = .ok (.i2l, 1) := by decide +kernel
theorem dX0_verify_119 : decode cX0_verify 119 = .ok (.lload 10, 2) := by decide +kernel
theorem dX0_verify_121 : decode cX0_verify 121 = .ok (.aload_n 0, 1) := by decide +kernel
theorem dX0_verify_122 : decode cX0_verify 122 = .ok (.getfield 66, 3) := by decide +kernel
theorem dX0_verify_125 : decode cX0_verify 125 = .ok (.i2l, 1) := by decide +kernel
theorem dX0_verify_126 : decode cX0_verify 126 = .ok (.lrem, 1) := by decide +kernel
theorem dX0_verify_127 : decode cX0_verify 127 = .ok (.lcmp, 1) := by decide +kernel
theorem dX0_verify_128 : decode cX0_verify 128 = .ok (.ifCond .ne 7, 3) := by decide +kernel
theorem dX0_verify_131 : decode cX0_verify 131 = .ok (.iconst 1, 1) := by decide +kernel
theorem dX0_verify_132 : decode cX0_verify 132 = .ok (.goto 4, 3) := by decide +kernel
theorem dX0_verify_135 : decode cX0_verify 135 = .ok (.iconst 0, 1) := by decide +kernel
theorem dX0_verify_136 : decode cX0_verify 136 = .ok (.ireturn, 1) := by decide +kernel
set_option maxRecDepth 20000 in
theorem ggX0_agree_X0_requireKey : GoodIn wsX0_agree wsX0_requireKey := goodIn_ca (goodIn_r _ [11, 12, 13, 5, 14, 15, 10, 16, 24, 25, 26, 27, 28, 29, 30, 31, 32] (by decide +kernel) (by decide +kernel)) (goodIn_sub (fun _ h => List.mem_cons_of_mem _ (List.mem_append_right _ h)) (by decide +kernel))
set_option maxRecDepth 20000 in
theorem gX0_agree_X0_requireKey : GoodIn wsX0_agree (wsV RX0 97 RX0 yX0_requireKey wsX0_requireKey) := goodIn_app (goodIn_of _ (by decide +kernel)) ggX0_agree_X0_requireKey
set_option maxRecDepth 20000 in
theorem ggX0_agree_X0_isPeer : GoodIn wsX0_agree wsX0_isPeer := goodIn_r _ [20, 6, 24, 25, 26, 27, 28, 29, 30, 31, 32] (by decide +kernel) (by decide +kernel)
set_option maxRecDepth 20000 in
theorem gX0_agree_X0_isPeer : GoodIn wsX0_agree (wsV RX0 100 RX0 yX0_isPeer wsX0_isPeer) := goodIn_app (goodIn_of _ (by decide +kernel)) ggX0_agree_X0_isPeer
set_option maxRecDepth 20000 in
theorem ggX0_agree_X0_power : GoodIn wsX0_agree wsX0_power := goodIn_r _ [23] (by decide +kernel) (by decide +kernel)
set_option maxRecDepth 20000 in
theorem gX0_agree_X0_power : GoodIn wsX0_agree (va_wsS RX0 93 yX0_power wsX0_power) := goodIn_app (goodIn_of _ (by decide +kernel)) ggX0_agree_X0_power
theorem dX0_agree_0 : decode cX0_agree 0 = .ok (.aload_n 0, 1) := by decide +kernel
theorem dX0_agree_1 : decode cX0_agree 1 = .ok (.iload_n 1, 1) := by decide +kernel
theorem dX0_agree_2 : decode cX0_agree 2 = .ok (.invokevirtual 97, 3) := by decide +kernel
theorem dX0_agree_5 : decode cX0_agree 5 = .ok (.aload_n 0, 1) := by decide +kernel
theorem dX0_agree_6 : decode cX0_agree 6 = .ok (.iload_n 2, 1) := by decide +kernel
theorem dX0_agree_7 : decode cX0_agree 7 = .ok (.invokevirtual 100, 3) := by decide +kernel
theorem dX0_agree_10 : decode cX0_agree 10 = .ok (.ifCond .ne 13, 3) := by decide +kernel
theorem dX0_agree_13 : decode cX0_agree 13 = .ok (.new 48, 3) := by decide +kernel
theorem dX0_agree_16 : decode cX0_agree 16 = .ok (.dup, 1) := by decide +kernel
theorem dX0_agree_17 : decode cX0_agree 17 = .ok (.ldc 123, 2) := by decide +kernel
theorem dX0_agree_19 : decode cX0_agree 19 = .ok (.invokespecial 52, 3) := by decide +kernel
theorem dX0_agree_22 : decode cX0_agree 22 = .ok (.athrow, 1) := by decide +kernel
theorem dX0_agree_23 : decode cX0_agree 23 = .ok (.iload_n 2, 1) := by decide +kernel
theorem dX0_agree_24 : decode cX0_agree 24 = .ok (.aload_n 0, 1) := by decide +kernel
theorem dX0_agree_25 : decode cX0_agree 25 = .ok (.getfield 9, 3) := by decide +kernel
theorem dX0_agree_28 : decode cX0_agree 28 = .ok (.iload_n 1, 1) := by decide +kernel
theorem dX0_agree_29 : decode cX0_agree 29 = .ok (.iaload, 1) := by decide +kernel
theorem dX0_agree_30 : decode cX0_agree 30 = .ok (.aload_n 0, 1) := by decide +kernel
theorem dX0_agree_31 : decode cX0_agree 31 = .ok (.getfield 63, 3) := by decide +kernel
theorem dX0_agree_34 : decode cX0_agree 34 = .ok (.invokestatic 93, 3) := by decide +kernel
theorem dX0_agree_37 : decode cX0_agree 37 = .ok (.istore_n 3, 1) := by decide +kernel
theorem dX0_agree_38 : decode cX0_agree 38 = .ok (.iload_n 3, 1) := by decide +kernel
theorem dX0_agree_39 : decode cX0_agree 39 = .ok (.iconst 1, 1) := by decide +kernel
theorem dX0_agree_40 : decode cX0_agree 40 = .ok (.if_icmp .ne 13, 3) := by decide +kernel
theorem dX0_agree_43 : decode cX0_agree 43 = .ok (.new 118, 3) := by decide +kernel
theorem dX0_agree_46 : decode cX0_agree 46 = .ok (.dup, 1) := by decide +kernel
theorem dX0_agree_47 : decode cX0_agree 47 = .ok (.ldc 125, 2) := by decide +kernel
theorem dX0_agree_49 : decode cX0_agree 49 = .ok (.invokespecial 122, 3) := by decide +kernel
theorem dX0_agree_52 : decode cX0_agree 52 = .ok (.athrow, 1) := by decide +kernel
theorem dX0_agree_53 : decode cX0_agree 53 = .ok (.iload_n 3, 1) := by decide +kernel
theorem dX0_agree_54 : decode cX0_agree 54 = .ok (.ireturn, 1) := by decide +kernel
theorem dX0_requireDomain_0 : decode cX0_requireDomain 0 = .ok (.aload_n 0, 1) := by decide +kernel
theorem dX0_requireDomain_1 : decode cX0_requireDomain 1 = .ok (.getfield 63, 3) := by decide +kernel
theorem dX0_requireDomain_4 : decode cX0_requireDomain 4 = .ok (.ifCond .ne 13, 3) := by decide +kernel
theorem dX0_requireDomain_7 : decode cX0_requireDomain 7 = .ok (.new 41, 3) := by decide +kernel
theorem dX0_requireDomain_10 : decode cX0_requireDomain 10 = .ok (.dup, 1) := by decide +kernel
theorem dX0_requireDomain_11 : decode cX0_requireDomain 11 = .ok (.ldc 61, 2) := by decide +kernel
theorem dX0_requireDomain_13 : decode cX0_requireDomain 13 = .ok (.invokespecial 45, 3) := by decide +kernel
theorem dX0_requireDomain_16 : decode cX0_requireDomain 16 = .ok (.athrow, 1) := by decide +kernel
theorem dX0_requireDomain_17 : decode cX0_requireDomain 17 = .ok (.return_, 1) := by decide +kernel
set_option maxRecDepth 20000 in
theorem ggX0_requireKey_X0_isSlot : GoodIn wsX0_requireKey wsX0_isSlot := goodIn_r _ [7] (by decide +kernel) (by decide +kernel)
set_option maxRecDepth 20000 in
theorem gX0_requireKey_X0_isSlot : GoodIn wsX0_requireKey (va_wsS RX0 79 yX0_isSlot wsX0_isSlot) := goodIn_app (goodIn_of _ (by decide +kernel)) ggX0_requireKey_X0_isSlot
theorem dX0_requireKey_0 : decode cX0_requireKey 0 = .ok (.iload_n 1, 1) := by decide +kernel
theorem dX0_requireKey_1 : decode cX0_requireKey 1 = .ok (.invokestatic 79, 3) := by decide +kernel
theorem dX0_requireKey_4 : decode cX0_requireKey 4 = .ok (.ifCond .eq 12, 3) := by decide +kernel
theorem dX0_requireKey_7 : decode cX0_requireKey 7 = .ok (.aload_n 0, 1) := by decide +kernel
theorem dX0_requireKey_8 : decode cX0_requireKey 8 = .ok (.getfield 9, 3) := by decide +kernel
theorem dX0_requireKey_11 : decode cX0_requireKey 11 = .ok (.iload_n 1, 1) := by decide +kernel
theorem dX0_requireKey_12 : decode cX0_requireKey 12 = .ok (.iaload, 1) := by decide +kernel
theorem dX0_requireKey_13 : decode cX0_requireKey 13 = .ok (.ifCond .ne 13, 3) := by decide +kernel
theorem dX0_requireKey_16 : decode cX0_requireKey 16 = .ok (.new 127, 3) := by decide +kernel
theorem dX0_requireKey_19 : decode cX0_requireKey 19 = .ok (.dup, 1) := by decide +kernel
theorem dX0_requireKey_20 : decode cX0_requireKey 20 = .ok (.ldc 129, 2) := by decide +kernel
theorem dX0_requireKey_22 : decode cX0_requireKey 22 = .ok (.invokespecial 131, 3) := by decide +kernel
theorem dX0_requireKey_25 : decode cX0_requireKey 25 = .ok (.athrow, 1) := by decide +kernel
theorem dX0_requireKey_26 : decode cX0_requireKey 26 = .ok (.return_, 1) := by decide +kernel
theorem dX0_clearSlot_0 : decode cX0_clearSlot 0 = .ok (.aload_n 0, 1) := by decide +kernel
theorem dX0_clearSlot_1 : decode cX0_clearSlot 1 = .ok (.getfield 9, 3) := by decide +kernel
theorem dX0_clearSlot_4 : decode cX0_clearSlot 4 = .ok (.iload_n 1, 1) := by decide +kernel
theorem dX0_clearSlot_5 : decode cX0_clearSlot 5 = .ok (.iconst 0, 1) := by decide +kernel
theorem dX0_clearSlot_6 : decode cX0_clearSlot 6 = .ok (.iastore, 1) := by decide +kernel
theorem dX0_clearSlot_7 : decode cX0_clearSlot 7 = .ok (.aload_n 0, 1) := by decide +kernel
theorem dX0_clearSlot_8 : decode cX0_clearSlot 8 = .ok (.getfield 13, 3) := by decide +kernel
theorem dX0_clearSlot_11 : decode cX0_clearSlot 11 = .ok (.iload_n 1, 1) := by decide +kernel
theorem dX0_clearSlot_12 : decode cX0_clearSlot 12 = .ok (.iconst 0, 1) := by decide +kernel
theorem dX0_clearSlot_13 : decode cX0_clearSlot 13 = .ok (.iastore, 1) := by decide +kernel
theorem dX0_clearSlot_14 : decode cX0_clearSlot 14 = .ok (.return_, 1) := by decide +kernel
theorem dX0_isExponent_0 : decode cX0_isExponent 0 = .ok (.iload_n 1, 1) := by decide +kernel
theorem dX0_isExponent_1 : decode cX0_isExponent 1 = .ok (.iconst 1, 1) := by decide +kernel
theorem dX0_isExponent_2 : decode cX0_isExponent 2 = .ok (.if_icmp .lt 15, 3) := by decide +kernel
theorem dX0_isExponent_5 : decode cX0_isExponent 5 = .ok (.iload_n 1, 1) := by decide +kernel
theorem dX0_isExponent_6 : decode cX0_isExponent 6 = .ok (.aload_n 0, 1) := by decide +kernel
theorem dX0_isExponent_7 : decode cX0_isExponent 7 = .ok (.getfield 66, 3) := by decide +kernel
theorem dX0_isExponent_10 : decode cX0_isExponent 10 = .ok (.if_icmp .ge 7, 3) := by decide +kernel
theorem dX0_isExponent_13 : decode cX0_isExponent 13 = .ok (.iconst 1, 1) := by decide +kernel
theorem dX0_isExponent_14 : decode cX0_isExponent 14 = .ok (.goto 4, 3) := by decide +kernel
theorem dX0_isExponent_17 : decode cX0_isExponent 17 = .ok (.iconst 0, 1) := by decide +kernel
theorem dX0_isExponent_18 : decode cX0_isExponent 18 = .ok (.ireturn, 1) := by decide +kernel
theorem dX0_isPeer_0 : decode cX0_isPeer 0 = .ok (.iload_n 1, 1) := by decide +kernel
theorem dX0_isPeer_1 : decode cX0_isPeer 1 = .ok (.iconst 2, 1) := by decide +kernel
theorem dX0_isPeer_2 : decode cX0_isPeer 2 = .ok (.if_icmp .lt 17, 3) := by decide +kernel
theorem dX0_isPeer_5 : decode cX0_isPeer 5 = .ok (.iload_n 1, 1) := by decide +kernel
theorem dX0_isPeer_6 : decode cX0_isPeer 6 = .ok (.aload_n 0, 1) := by decide +kernel
theorem dX0_isPeer_7 : decode cX0_isPeer 7 = .ok (.getfield 63, 3) := by decide +kernel
theorem dX0_isPeer_10 : decode cX0_isPeer 10 = .ok (.iconst 2, 1) := by decide +kernel
theorem dX0_isPeer_11 : decode cX0_isPeer 11 = .ok (.isub, 1) := by decide +kernel
theorem dX0_isPeer_12 : decode cX0_isPeer 12 = .ok (.if_icmp .gt 7, 3) := by decide +kernel
theorem dX0_isPeer_15 : decode cX0_isPeer 15 = .ok (.iconst 1, 1) := by decide +kernel
theorem dX0_isPeer_16 : decode cX0_isPeer 16 = .ok (.goto 4, 3) := by decide +kernel
theorem dX0_isPeer_19 : decode cX0_isPeer 19 = .ok (.iconst 0, 1) := by decide +kernel
theorem dX0_isPeer_20 : decode cX0_isPeer 20 = .ok (.ireturn, 1) := by decide +kernel
set_option maxRecDepth 20000 in
theorem ggX0_generatorAt_X0_mix : GoodIn wsX0_generatorAt wsX0_mix := goodIn_r _ [7, 8, 9, 10] (by decide +kernel) (by decide +kernel)
set_option maxRecDepth 20000 in
theorem gX0_generatorAt_X0_mix : GoodIn wsX0_generatorAt (va_wsS RX0 105 yX0_mix wsX0_mix) := goodIn_app (goodIn_of _ (by decide +kernel)) ggX0_generatorAt_X0_mix
set_option maxRecDepth 20000 in
theorem ggX0_generatorAt_X0_power : GoodIn wsX0_generatorAt wsX0_power := goodIn_r _ [13] (by decide +kernel) (by decide +kernel)
set_option maxRecDepth 20000 in
theorem gX0_generatorAt_X0_power : GoodIn wsX0_generatorAt (va_wsS RX0 93 yX0_power wsX0_power) := goodIn_app (goodIn_of _ (by decide +kernel)) ggX0_generatorAt_X0_power
theorem dX0_generatorAt_0 : decode cX0_generatorAt 0 = .ok (.aload_n 0, 1) := by decide +kernel
theorem dX0_generatorAt_1 : decode cX0_generatorAt 1 = .ok (.getfield 34, 3) := by decide +kernel
theorem dX0_generatorAt_4 : decode cX0_generatorAt 4 = .ok (.bipush 100, 2) := by decide +kernel
theorem dX0_generatorAt_6 : decode cX0_generatorAt 6 = .ok (.iload_n 1, 1) := by decide +kernel
theorem dX0_generatorAt_7 : decode cX0_generatorAt 7 = .ok (.iadd, 1) := by decide +kernel
theorem dX0_generatorAt_8 : decode cX0_generatorAt 8 = .ok (.i2l, 1) := by decide +kernel
theorem dX0_generatorAt_9 : decode cX0_generatorAt 9 = .ok (.invokestatic 105, 3) := by decide +kernel
theorem dX0_generatorAt_12 : decode cX0_generatorAt 12 = .ok (.lstore_n 2, 1) := by decide +kernel
theorem dX0_generatorAt_13 : decode cX0_generatorAt 13 = .ok (.aload_n 0, 1) := by decide +kernel
theorem dX0_generatorAt_14 : decode cX0_generatorAt 14 = .ok (.getfield 31, 3) := by decide +kernel
theorem dX0_generatorAt_17 : decode cX0_generatorAt 17 = .ok (.iconst 1, 1) := by decide +kernel
theorem dX0_generatorAt_18 : decode cX0_generatorAt 18 = .ok (.isub, 1) := by decide +kernel
theorem dX0_generatorAt_19 : decode cX0_generatorAt 19 = .ok (.aload_n 0, 1) := by decide +kernel
theorem dX0_generatorAt_20 : decode cX0_generatorAt 20 = .ok (.getfield 23, 3) := by decide +kernel
theorem dX0_generatorAt_23 : decode cX0_generatorAt 23 = .ok (.idiv, 1) := by decide +kernel
theorem dX0_generatorAt_24 : decode cX0_generatorAt 24 = .ok (.istore 4, 2) := by decide +kernel
theorem dX0_generatorAt_26 : decode cX0_generatorAt 26 = .ok (.iconst 1, 1) := by decide +kernel
theorem dX0_generatorAt_27 : decode cX0_generatorAt 27 = .ok (.istore 5, 2) := by decide +kernel
theorem dX0_generatorAt_29 : decode cX0_generatorAt 29 = .ok (.iload 5, 2) := by decide +kernel
theorem dX0_generatorAt_31 : decode cX0_generatorAt 31 = .ok (.bipush 100, 2) := by decide +kernel
theorem dX0_generatorAt_33 : decode cX0_generatorAt 33 = .ok (.if_icmp .gt 49, 3) := by decide +kernel
theorem dX0_generatorAt_36 : decode cX0_generatorAt 36 = .ok (.lload_n 2, 1) := by decide +kernel
theorem dX0_generatorAt_37 : decode cX0_generatorAt 37 = .ok (.iload 5, 2) := by decide +kernel
theorem dX0_generatorAt_39 : decode cX0_generatorAt 39 = .ok (.i2l, 1) := by decide +kernel
theorem dX0_generatorAt_40 : decode cX0_generatorAt 40 = .ok (.invokestatic 105, 3) := by decide +kernel
theorem dX0_generatorAt_43 : decode cX0_generatorAt 43 = .ok (.iconst 1, 1) := by decide +kernel
theorem dX0_generatorAt_44 : decode cX0_generatorAt 44 = .ok (.lushr, 1) := by decide +kernel
theorem dX0_generatorAt_45 : decode cX0_generatorAt 45 = .ok (.aload_n 0, 1) := by decide +kernel
theorem dX0_generatorAt_46 : decode cX0_generatorAt 46 = .ok (.getfield 31, 3) := by decide +kernel
theorem dX0_generatorAt_49 : decode cX0_generatorAt 49 = .ok (.i2l, 1) := by decide +kernel
theorem dX0_generatorAt_50 : decode cX0_generatorAt 50 = .ok (.lrem, 1) := by decide +kernel
theorem dX0_generatorAt_51 : decode cX0_generatorAt 51 = .ok (.l2i, 1) := by decide +kernel
theorem dX0_generatorAt_52 : decode cX0_generatorAt 52 = .ok (.istore 6, 2) := by decide +kernel
theorem dX0_generatorAt_54 : decode cX0_generatorAt 54 = .ok (.iload 6, 2) := by decide +kernel
theorem dX0_generatorAt_56 : decode cX0_generatorAt 56 = .ok (.iload 4, 2) := by decide +kernel
theorem dX0_generatorAt_58 : decode cX0_generatorAt 58 = .ok (.aload_n 0, 1) := by decide +kernel
theorem dX0_generatorAt_59 : decode cX0_generatorAt 59 = .ok (.getfield 31, 3) := by decide +kernel
theorem dX0_generatorAt_62 : decode cX0_generatorAt 62 = .ok (.invokestatic 93, 3) := by decide +kernel
theorem dX0_generatorAt_65 : decode cX0_generatorAt 65 = .ok (.istore 7, 2) := by decide +kernel
theorem dX0_generatorAt_67 : decode cX0_generatorAt 67 = .ok (.iload 7, 2) := by decide +kernel
theorem dX0_generatorAt_69 : decode cX0_generatorAt 69 = .ok (.iconst 1, 1) := by decide +kernel
theorem dX0_generatorAt_70 : decode cX0_generatorAt 70 = .ok (.if_icmp .le 6, 3) := by decide +kernel
theorem dX0_generatorAt_73 : decode cX0_generatorAt 73 = .ok (.iload 7, 2) := by decide +kernel
theorem dX0_generatorAt_75 : decode cX0_generatorAt 75 = .ok (.ireturn, 1) := by decide +kernel
theorem dX0_generatorAt_76 : decode cX0_generatorAt 76 = .ok (.iinc 5 1, 3) := by decide +kernel
theorem dX0_generatorAt_79 : decode cX0_generatorAt 79 = .ok (.goto (-50), 3) := by decide +kernel
theorem dX0_generatorAt_82 : decode cX0_generatorAt 82 = .ok (.iconst 1, 1) := by decide +kernel
theorem dX0_generatorAt_83 : decode cX0_generatorAt 83 = .ok (.ireturn, 1) := by decide +kernel
theorem dX0_isSlot_0 : decode cX0_isSlot 0 = .ok (.iload_n 0, 1) := by decide +kernel
theorem dX0_isSlot_1 : decode cX0_isSlot 1 = .ok (.ifCond .lt 13, 3) := by decide +kernel
theorem dX0_isSlot_4 : decode cX0_isSlot 4 = .ok (.iload_n 0, 1) := by decide +kernel
theorem dX0_isSlot_5 : decode cX0_isSlot 5 = .ok (.bipush 8, 2) := by decide +kernel
theorem dX0_isSlot_7 : decode cX0_isSlot 7 = .ok (.if_icmp .ge 7, 3) := by decide +kernel
theorem dX0_isSlot_10 : decode cX0_isSlot 10 = .ok (.iconst 1, 1) := by decide +kernel
theorem dX0_isSlot_11 : decode cX0_isSlot 11 = .ok (.goto 4, 3) := by decide +kernel
theorem dX0_isSlot_14 : decode cX0_isSlot 14 = .ok (.iconst 0, 1) := by decide +kernel
theorem dX0_isSlot_15 : decode cX0_isSlot 15 = .ok (.ireturn, 1) := by decide +kernel
set_option maxRecDepth 20000 in
theorem ggX0_isDomain_X0_isPrime : GoodIn wsX0_isDomain wsX0_isPrime := goodIn_r _ [4, 5] (by decide +kernel) (by decide +kernel)
set_option maxRecDepth 20000 in
theorem gX0_isDomain_X0_isPrime : GoodIn wsX0_isDomain (va_wsS RX0 132 yX0_isPrime wsX0_isPrime) := goodIn_app (goodIn_of _ (by decide +kernel)) ggX0_isDomain_X0_isPrime
set_option maxRecDepth 20000 in
theorem ggX0_isDomain_X0_power : GoodIn wsX0_isDomain wsX0_power := goodIn_r _ [8] (by decide +kernel) (by decide +kernel)
set_option maxRecDepth 20000 in
theorem gX0_isDomain_X0_power : GoodIn wsX0_isDomain (va_wsS RX0 93 yX0_power wsX0_power) := goodIn_app (goodIn_of _ (by decide +kernel)) ggX0_isDomain_X0_power
theorem dX0_isDomain_0 : decode cX0_isDomain 0 = .ok (.iload_n 1, 1) := by decide +kernel
theorem dX0_isDomain_1 : decode cX0_isDomain 1 = .ok (.iconst 3, 1) := by decide +kernel
theorem dX0_isDomain_2 : decode cX0_isDomain 2 = .ok (.if_icmp .lt 13, 3) := by decide +kernel
theorem dX0_isDomain_5 : decode cX0_isDomain 5 = .ok (.iload_n 2, 1) := by decide +kernel
theorem dX0_isDomain_6 : decode cX0_isDomain 6 = .ok (.iconst 2, 1) := by decide +kernel
theorem dX0_isDomain_7 : decode cX0_isDomain 7 = .ok (.if_icmp .lt 8, 3) := by decide +kernel
theorem dX0_isDomain_10 : decode cX0_isDomain 10 = .ok (.iload_n 2, 1) := by decide +kernel
theorem dX0_isDomain_11 : decode cX0_isDomain 11 = .ok (.iload_n 0, 1) := by decide +kernel
theorem dX0_isDomain_12 : decode cX0_isDomain 12 = .ok (.if_icmp .lt 5, 3) := by decide +kernel
theorem dX0_isDomain_15 : decode cX0_isDomain 15 = .ok (.iconst 0, 1) := by decide +kernel
theorem dX0_isDomain_16 : decode cX0_isDomain 16 = .ok (.ireturn, 1) := by decide +kernel
theorem dX0_isDomain_17 : decode cX0_isDomain 17 = .ok (.iload_n 0, 1) := by decide +kernel
theorem dX0_isDomain_18 : decode cX0_isDomain 18 = .ok (.iconst 1, 1) := by decide +kernel
theorem dX0_isDomain_19 : decode cX0_isDomain 19 = .ok (.isub, 1) := by decide +kernel
theorem dX0_isDomain_20 : decode cX0_isDomain 20 = .ok (.iload_n 1, 1) := by decide +kernel
theorem dX0_isDomain_21 : decode cX0_isDomain 21 = .ok (.irem, 1) := by decide +kernel
theorem dX0_isDomain_22 : decode cX0_isDomain 22 = .ok (.ifCond .ne 31, 3) := by decide +kernel
theorem dX0_isDomain_25 : decode cX0_isDomain 25 = .ok (.iload_n 1, 1) := by decide +kernel
theorem dX0_isDomain_26 : decode cX0_isDomain 26 = .ok (.invokestatic 132, 3) := by decide +kernel
theorem dX0_isDomain_29 : decode cX0_isDomain 29 = .ok (.ifCond .eq 24, 3) := by decide +kernel
theorem dX0_isDomain_32 : decode cX0_isDomain 32 = .ok (.iload_n 0, 1) := by decide +kernel
theorem dX0_isDomain_33 : decode cX0_isDomain 33 = .ok (.invokestatic 132, 3) := by decide +kernel
theorem dX0_isDomain_36 : decode cX0_isDomain 36 = .ok (.ifCond .eq 17, 3) := by decide +kernel
theorem dX0_isDomain_39 : decode cX0_isDomain 39 = .ok (.iload_n 2, 1) := by decide +kernel
theorem dX0_isDomain_40 : decode cX0_isDomain 40 = .ok (.iload_n 1, 1) := by decide +kernel
theorem dX0_isDomain_41 : decode cX0_isDomain 41 = .ok (.iload_n 0, 1) := by decide +kernel
theorem dX0_isDomain_42 : decode cX0_isDomain 42 = .ok (.invokestatic 93, 3) := by decide +kernel
theorem dX0_isDomain_45 : decode cX0_isDomain 45 = .ok (.iconst 1, 1) := by decide +kernel
theorem dX0_isDomain_46 : decode cX0_isDomain 46 = .ok (.if_icmp .ne 7, 3) := by decide +kernel
theorem dX0_isDomain_49 : decode cX0_isDomain 49 = .ok (.iconst 1, 1) := by decide +kernel
theorem dX0_isDomain_50 : decode cX0_isDomain 50 = .ok (.goto 4, 3) := by decide +kernel
theorem dX0_isDomain_53 : decode cX0_isDomain 53 = .ok (.iconst 0, 1) := by decide +kernel
theorem dX0_isDomain_54 : decode cX0_isDomain 54 = .ok (.ireturn, 1) := by decide +kernel
set_option maxRecDepth 20000 in
theorem ggX0_counterFrom_X0_orderFrom : GoodIn wsX0_counterFrom wsX0_orderFrom := goodIn_r _ [5, 6, 7, 4, 8, 9, 10, 11] (by decide +kernel) (by decide +kernel)
set_option maxRecDepth 20000 in
theorem gX0_counterFrom_X0_orderFrom : GoodIn wsX0_counterFrom (va_wsS RX0 20 yX0_orderFrom wsX0_orderFrom) := goodIn_app (goodIn_of _ (by decide +kernel)) ggX0_counterFrom_X0_orderFrom
set_option maxRecDepth 20000 in
theorem ggX0_counterFrom_X0_isPrime : GoodIn wsX0_counterFrom wsX0_isPrime := goodIn_r _ [14, 15] (by decide +kernel) (by decide +kernel)
set_option maxRecDepth 20000 in
theorem gX0_counterFrom_X0_isPrime : GoodIn wsX0_counterFrom (va_wsS RX0 132 yX0_isPrime wsX0_isPrime) := goodIn_app (goodIn_of _ (by decide +kernel)) ggX0_counterFrom_X0_isPrime
set_option maxRecDepth 20000 in
theorem ggX0_counterFrom_X0_fieldTry : GoodIn wsX0_counterFrom wsX0_fieldTry := goodIn_r _ [18, 19, 6, 7, 4, 8, 9, 10, 11] (by decide +kernel) (by decide +kernel)
set_option maxRecDepth 20000 in
theorem gX0_counterFrom_X0_fieldTry : GoodIn wsX0_counterFrom (va_wsS RX0 27 yX0_fieldTry wsX0_fieldTry) := goodIn_app (goodIn_of _ (by decide +kernel)) ggX0_counterFrom_X0_fieldTry
theorem dX0_counterFrom_0 : decode cX0_counterFrom 0 = .ok (.lload_n 0, 1) := by decide +kernel
theorem dX0_counterFrom_1 : decode cX0_counterFrom 1 = .ok (.invokestatic 20, 3) := by decide +kernel
theorem dX0_counterFrom_4 : decode cX0_counterFrom 4 = .ok (.istore_n 2, 1) := by decide +kernel
theorem dX0_counterFrom_5 : decode cX0_counterFrom 5 = .ok (.iload_n 2, 1) := by decide +kernel
theorem dX0_counterFrom_6 : decode cX0_counterFrom 6 = .ok (.invokestatic 132, 3) := by decide +kernel
theorem dX0_counterFrom_9 : decode cX0_counterFrom 9 = .ok (.ifCond .ne 5, 3) := by decide +kernel
theorem dX0_counterFrom_12 : decode cX0_counterFrom 12 = .ok (.iconst (-1), 1) := by decide +kernel
theorem dX0_counterFrom_13 : decode cX0_counterFrom 13 = .ok (.ireturn, 1) := by decide +kernel
theorem dX0_counterFrom_14 : decode cX0_counterFrom 14 = .ok (.iconst 0, 1) := by decide +kernel
theorem dX0_counterFrom_15 : decode cX0_counterFrom 15 = .ok (.istore_n 3, 1) := by decide +kernel
theorem dX0_counterFrom_16 : decode cX0_counterFrom 16 = .ok (.iload_n 3, 1) := by decide +kernel
theorem dX0_counterFrom_17 : decode cX0_counterFrom 17 = .ok (.bipush 64, 2) := by decide +kernel
theorem dX0_counterFrom_19 : decode cX0_counterFrom 19 = .ok (.if_icmp .ge 34, 3) := by decide +kernel
theorem dX0_counterFrom_22 : decode cX0_counterFrom 22 = .ok (.lload_n 0, 1) := by decide +kernel
theorem dX0_counterFrom_23 : decode cX0_counterFrom 23 = .ok (.iload_n 2, 1) := by decide +kernel
theorem dX0_counterFrom_24 : decode cX0_counterFrom 24 = .ok (.iload_n 3, 1) := by decide +kernel
theorem dX0_counterFrom_25 : decode cX0_counterFrom 25 = .ok (.invokestatic 27, 3) := by decide +kernel
theorem dX0_counterFrom_28 : decode cX0_counterFrom 28 = .ok (.istore 4, 2) := by decide +kernel
theorem dX0_counterFrom_30 : decode cX0_counterFrom 30 = .ok (.iload 4, 2) := by decide +kernel
theorem dX0_counterFrom_32 : decode cX0_counterFrom 32 = .ok (.ldc 135, 2) := by decide +kernel
theorem dX0_counterFrom_34 : decode cX0_counterFrom 34 = .ok (.if_icmp .le 13, 3) := by decide +kernel
theorem dX0_counterFrom_37 : decode cX0_counterFrom 37 = .ok (.iload 4, 2) := by decide +kernel
theorem dX0_counterFrom_39 : decode cX0_counterFrom 39 = .ok (.invokestatic 132, 3) := by decide +kernel
theorem dX0_counterFrom_42 : decode cX0_counterFrom 42 = .ok (.ifCond .eq 5, 3) := by decide +kernel
theorem dX0_counterFrom_45 : decode cX0_counterFrom 45 = .ok (.iload_n 3, 1) := by decide +kernel
theorem dX0_counterFrom_46 : decode cX0_counterFrom 46 = .ok (.ireturn, 1) := by decide +kernel
theorem dX0_counterFrom_47 : decode cX0_counterFrom 47 = .ok (.iinc 3 1, 3) := by decide +kernel
theorem dX0_counterFrom_50 : decode cX0_counterFrom 50 = .ok (.goto (-34), 3) := by decide +kernel
theorem dX0_counterFrom_53 : decode cX0_counterFrom 53 = .ok (.bipush (-2), 2) := by decide +kernel
theorem dX0_counterFrom_55 : decode cX0_counterFrom 55 = .ok (.ireturn, 1) := by decide +kernel
set_option maxRecDepth 20000 in
theorem ggX0_orderFrom_X0_mix : GoodIn wsX0_orderFrom wsX0_mix := goodIn_r _ [4, 5, 6, 7] (by decide +kernel) (by decide +kernel)
set_option maxRecDepth 20000 in
theorem gX0_orderFrom_X0_mix : GoodIn wsX0_orderFrom (va_wsS RX0 105 yX0_mix wsX0_mix) := goodIn_app (goodIn_of _ (by decide +kernel)) ggX0_orderFrom_X0_mix
theorem dX0_orderFrom_0 : decode cX0_orderFrom 0 = .ok (.sipush 16385, 3) := by decide +kernel
theorem dX0_orderFrom_3 : decode cX0_orderFrom 3 = .ok (.iconst 2, 1) := by decide +kernel
theorem dX0_orderFrom_4 : decode cX0_orderFrom 4 = .ok (.lload_n 0, 1) := by decide +kernel
theorem dX0_orderFrom_5 : decode cX0_orderFrom 5 = .ok (.lconst 0, 1) := by decide +kernel
theorem dX0_orderFrom_6 : decode cX0_orderFrom 6 = .ok (.invokestatic 105, 3) := by decide +kernel
theorem dX0_orderFrom_9 : decode cX0_orderFrom 9 = .ok (.bipush 51, 2) := by decide +kernel
theorem dX0_orderFrom_11 : decode cX0_orderFrom 11 = .ok (.lushr, 1) := by decide +kernel
theorem dX0_orderFrom_12 : decode cX0_orderFrom 12 = .ok (.l2i, 1) := by decide +kernel
theorem dX0_orderFrom_13 : decode cX0_orderFrom 13 = .ok (.imul, 1) := by decide +kernel
theorem dX0_orderFrom_14 : decode cX0_orderFrom 14 = .ok (.iadd, 1) := by decide +kernel
theorem dX0_orderFrom_15 : decode cX0_orderFrom 15 = .ok (.ireturn, 1) := by decide +kernel
set_option maxRecDepth 20000 in
theorem ggX0_fieldTry_X0_mix : GoodIn wsX0_fieldTry wsX0_mix := goodIn_r _ [5, 6, 7, 8] (by decide +kernel) (by decide +kernel)
set_option maxRecDepth 20000 in
theorem gX0_fieldTry_X0_mix : GoodIn wsX0_fieldTry (va_wsS RX0 105 yX0_mix wsX0_mix) := goodIn_app (goodIn_of _ (by decide +kernel)) ggX0_fieldTry_X0_mix
theorem dX0_fieldTry_0 : decode cX0_fieldTry 0 = .ok (.ldc2_w 136, 3) := by decide +kernel
theorem dX0_fieldTry_3 : decode cX0_fieldTry 3 = .ok (.lload_n 0, 1) := by decide +kernel
theorem dX0_fieldTry_4 : decode cX0_fieldTry 4 = .ok (.iconst 1, 1) := by decide +kernel
theorem dX0_fieldTry_5 : decode cX0_fieldTry 5 = .ok (.iload_n 3, 1) := by decide +kernel
theorem dX0_fieldTry_6 : decode cX0_fieldTry 6 = .ok (.iadd, 1) := by decide +kernel
theorem dX0_fieldTry_7 : decode cX0_fieldTry 7 = .ok (.i2l, 1) := by decide +kernel
theorem dX0_fieldTry_8 : decode cX0_fieldTry 8 = .ok (.invokestatic 105, 3) := by decide +kernel
theorem dX0_fieldTry_11 : decode cX0_fieldTry 11 = .ok (.bipush 34, 2) := by decide +kernel
theorem dX0_fieldTry_13 : decode cX0_fieldTry 13 = .ok (.lushr, 1) := by decide +kernel
theorem dX0_fieldTry_14 : decode cX0_fieldTry 14 = .ok (.ladd, 1) := by decide +kernel
theorem dX0_fieldTry_15 : decode cX0_fieldTry 15 = .ok (.lstore 4, 2) := by decide +kernel
theorem dX0_fieldTry_17 : decode cX0_fieldTry 17 = .ok (.lload 4, 2) := by decide +kernel
theorem dX0_fieldTry_19 : decode cX0_fieldTry 19 = .ok (.lload 4, 2) := by decide +kernel
theorem dX0_fieldTry_21 : decode cX0_fieldTry 21 = .ok (.iconst 2, 1) := by decide +kernel
theorem dX0_fieldTry_22 : decode cX0_fieldTry 22 = .ok (.iload_n 2, 1) := by decide +kernel
theorem dX0_fieldTry_23 : decode cX0_fieldTry 23 = .ok (.imul, 1) := by decide +kernel
theorem dX0_fieldTry_24 : decode cX0_fieldTry 24 = .ok (.i2l, 1) := by decide +kernel
theorem dX0_fieldTry_25 : decode cX0_fieldTry 25 = .ok (.lrem, 1) := by decide +kernel
theorem dX0_fieldTry_26 : decode cX0_fieldTry 26 = .ok (.lsub, 1) := by decide +kernel
theorem dX0_fieldTry_27 : decode cX0_fieldTry 27 = .ok (.lconst 1, 1) := by decide +kernel
theorem dX0_fieldTry_28 : decode cX0_fieldTry 28 = .ok (.ladd, 1) := by decide +kernel
theorem dX0_fieldTry_29 : decode cX0_fieldTry 29 = .ok (.l2i, 1) := by decide +kernel
theorem dX0_fieldTry_30 : decode cX0_fieldTry 30 = .ok (.ireturn, 1) := by decide +kernel
theorem dX0_isPrime_0 : decode cX0_isPrime 0 = .ok (.iload_n 0, 1) := by decide +kernel
theorem dX0_isPrime_1 : decode cX0_isPrime 1 = .ok (.iconst 2, 1) := by decide +kernel
theorem dX0_isPrime_2 : decode cX0_isPrime 2 = .ok (.if_icmp .lt 9, 3) := by decide +kernel
theorem dX0_isPrime_5 : decode cX0_isPrime 5 = .ok (.iload_n 0, 1) := by decide +kernel
theorem dX0_isPrime_6 : decode cX0_isPrime 6 = .ok (.iconst 2, 1) := by decide +kernel
theorem dX0_isPrime_7 : decode cX0_isPrime 7 = .ok (.irem, 1) := by decide +kernel
theorem dX0_isPrime_8 : decode cX0_isPrime 8 = .ok (.ifCond .ne 14, 3) := by decide +kernel
theorem dX0_isPrime_11 : decode cX0_isPrime 11 = .ok (.iload_n 0, 1) := by decide +kernel
theorem dX0_isPrime_12 : decode cX0_isPrime 12 = .ok (.iconst 2, 1) := by decide +kernel
theorem dX0_isPrime_13 : decode cX0_isPrime 13 = .ok (.if_icmp .ne 7, 3) := by decide +kernel
theorem dX0_isPrime_16 : decode cX0_isPrime 16 = .ok (.iconst 1, 1) := by decide +kernel
theorem dX0_isPrime_17 : decode cX0_isPrime 17 = .ok (.goto 4, 3) := by decide +kernel
theorem dX0_isPrime_20 : decode cX0_isPrime 20 = .ok (.iconst 0, 1) := by decide +kernel
theorem dX0_isPrime_21 : decode cX0_isPrime 21 = .ok (.ireturn, 1) := by decide +kernel
theorem dX0_isPrime_22 : decode cX0_isPrime 22 = .ok (.iconst 3, 1) := by decide +kernel
theorem dX0_isPrime_23 : decode cX0_isPrime 23 = .ok (.istore_n 1, 1) := by decide +kernel
theorem dX0_isPrime_24 : decode cX0_isPrime 24 = .ok (.iload_n 1, 1) := by decide +kernel
theorem dX0_isPrime_25 : decode cX0_isPrime 25 = .ok (.ldc 138, 2) := by decide +kernel
theorem dX0_isPrime_27 : decode cX0_isPrime 27 = .ok (.if_icmp .gt 26, 3) := by decide +kernel
theorem dX0_isPrime_30 : decode cX0_isPrime 30 = .ok (.iload_n 1, 1) := by decide +kernel
theorem dX0_isPrime_31 : decode cX0_isPrime 31 = .ok (.iload_n 1, 1) := by decide +kernel
theorem dX0_isPrime_32 : decode cX0_isPrime 32 = .ok (.imul, 1) := by decide +kernel
theorem dX0_isPrime_33 : decode cX0_isPrime 33 = .ok (.iload_n 0, 1) := by decide +kernel
theorem dX0_isPrime_34 : decode cX0_isPrime 34 = .ok (.if_icmp .le 5, 3) := by decide +kernel
theorem dX0_isPrime_37 : decode cX0_isPrime 37 = .ok (.iconst 1, 1) := by decide +kernel
theorem dX0_isPrime_38 : decode cX0_isPrime 38 = .ok (.ireturn, 1) := by decide +kernel
theorem dX0_isPrime_39 : decode cX0_isPrime 39 = .ok (.iload_n 0, 1) := by decide +kernel
theorem dX0_isPrime_40 : decode cX0_isPrime 40 = .ok (.iload_n 1, 1) := by decide +kernel
theorem dX0_isPrime_41 : decode cX0_isPrime 41 = .ok (.irem, 1) := by decide +kernel
theorem dX0_isPrime_42 : decode cX0_isPrime 42 = .ok (.ifCond .ne 5, 3) := by decide +kernel
theorem dX0_isPrime_45 : decode cX0_isPrime 45 = .ok (.iconst 0, 1) := by decide +kernel
theorem dX0_isPrime_46 : decode cX0_isPrime 46 = .ok (.ireturn, 1) := by decide +kernel
theorem dX0_isPrime_47 : decode cX0_isPrime 47 = .ok (.iinc 1 2, 3) := by decide +kernel
theorem dX0_isPrime_50 : decode cX0_isPrime 50 = .ok (.goto (-26), 3) := by decide +kernel
theorem dX0_isPrime_53 : decode cX0_isPrime 53 = .ok (.iconst 1, 1) := by decide +kernel
theorem dX0_isPrime_54 : decode cX0_isPrime 54 = .ok (.ireturn, 1) := by decide +kernel
theorem dX0_power_0 : decode cX0_power 0 = .ok (.lconst 1, 1) := by decide +kernel
theorem dX0_power_1 : decode cX0_power 1 = .ok (.lstore_n 3, 1) := by decide +kernel
theorem dX0_power_2 : decode cX0_power 2 = .ok (.bipush 30, 2) := by decide +kernel
theorem dX0_power_4 : decode cX0_power 4 = .ok (.istore 5, 2) := by decide +kernel
theorem dX0_power_6 : decode cX0_power 6 = .ok (.iload 5, 2) := by decide +kernel
theorem dX0_power_8 : decode cX0_power 8 = .ok (.ifCond .lt 34, 3) := by decide +kernel
theorem dX0_power_11 : decode cX0_power 11 = .ok (.lload_n 3, 1) := by decide +kernel
theorem dX0_power_12 : decode cX0_power 12 = .ok (.lload_n 3, 1) := by decide +kernel
theorem dX0_power_13 : decode cX0_power 13 = .ok (.lmul, 1) := by decide +kernel
theorem dX0_power_14 : decode cX0_power 14 = .ok (.iload_n 2, 1) := by decide +kernel
theorem dX0_power_15 : decode cX0_power 15 = .ok (.i2l, 1) := by decide +kernel
theorem dX0_power_16 : decode cX0_power 16 = .ok (.lrem, 1) := by decide +kernel
theorem dX0_power_17 : decode cX0_power 17 = .ok (.lstore_n 3, 1) := by decide +kernel
theorem dX0_power_18 : decode cX0_power 18 = .ok (.iload_n 1, 1) := by decide +kernel
theorem dX0_power_19 : decode cX0_power 19 = .ok (.iload 5, 2) := by decide +kernel
theorem dX0_power_21 : decode cX0_power 21 = .ok (.iushr, 1) := by decide +kernel
theorem dX0_power_22 : decode cX0_power 22 = .ok (.iconst 1, 1) := by decide +kernel
theorem dX0_power_23 : decode cX0_power 23 = .ok (.iand, 1) := by decide +kernel
theorem dX0_power_24 : decode cX0_power 24 = .ok (.iconst 1, 1) := by decide +kernel
theorem dX0_power_25 : decode cX0_power 25 = .ok (.if_icmp .ne 11, 3) := by decide +kernel
theorem dX0_power_28 : decode cX0_power 28 = .ok (.lload_n 3, 1) := by decide +kernel
theorem dX0_power_29 : decode cX0_power 29 = .ok (.iload_n 0, 1) := by decide +kernel
theorem dX0_power_30 : decode cX0_power 30 = .ok (.i2l, 1) := by decide +kernel
theorem dX0_power_31 : decode cX0_power 31 = .ok (.lmul, 1) := by decide +kernel
theorem dX0_power_32 : decode cX0_power 32 = .ok (.iload_n 2, 1) := by decide +kernel
theorem dX0_power_33 : decode cX0_power 33 = .ok (.i2l, 1) := by decide +kernel
theorem dX0_power_34 : decode cX0_power 34 = .ok (.lrem, 1) := by decide +kernel
theorem dX0_power_35 : decode cX0_power 35 = .ok (.lstore_n 3, 1) := by decide +kernel
theorem dX0_power_36 : decode cX0_power 36 = .ok (.iinc 5 (-1), 3) := by decide +kernel
theorem dX0_power_39 : decode cX0_power 39 = .ok (.goto (-33), 3) := by decide +kernel
theorem dX0_power_42 : decode cX0_power 42 = .ok (.lload_n 3, 1) := by decide +kernel
theorem dX0_power_43 : decode cX0_power 43 = .ok (.l2i, 1) := by decide +kernel
theorem dX0_power_44 : decode cX0_power 44 = .ok (.ireturn, 1) := by decide +kernel
set_option maxRecDepth 20000 in
theorem ggX0_inverse_X0_power : GoodIn wsX0_inverse wsX0_power := goodIn_r _ [4] (by decide +kernel) (by decide +kernel)
set_option maxRecDepth 20000 in
theorem gX0_inverse_X0_power : GoodIn wsX0_inverse (va_wsS RX0 93 yX0_power wsX0_power) := goodIn_app (goodIn_of _ (by decide +kernel)) ggX0_inverse_X0_power
theorem dX0_inverse_0 : decode cX0_inverse 0 = .ok (.iload_n 0, 1) := by decide +kernel
theorem dX0_inverse_1 : decode cX0_inverse 1 = .ok (.iload_n 1, 1) := by decide +kernel
theorem dX0_inverse_2 : decode cX0_inverse 2 = .ok (.iconst 2, 1) := by decide +kernel
theorem dX0_inverse_3 : decode cX0_inverse 3 = .ok (.isub, 1) := by decide +kernel
theorem dX0_inverse_4 : decode cX0_inverse 4 = .ok (.iload_n 1, 1) := by decide +kernel
theorem dX0_inverse_5 : decode cX0_inverse 5 = .ok (.invokestatic 93, 3) := by decide +kernel
theorem dX0_inverse_8 : decode cX0_inverse 8 = .ok (.ireturn, 1) := by decide +kernel
theorem dX0_mix_0 : decode cX0_mix 0 = .ok (.lload_n 0, 1) := by decide +kernel
theorem dX0_mix_1 : decode cX0_mix 1 = .ok (.ldc2_w 139, 3) := by decide +kernel
theorem dX0_mix_4 : decode cX0_mix 4 = .ok (.lxor, 1) := by decide +kernel
theorem dX0_mix_5 : decode cX0_mix 5 = .ok (.ldc2_w 141, 3) := by decide +kernel
theorem dX0_mix_8 : decode cX0_mix 8 = .ok (.lmul, 1) := by decide +kernel
theorem dX0_mix_9 : decode cX0_mix 9 = .ok (.lload_n 2, 1) := by decide +kernel
theorem dX0_mix_10 : decode cX0_mix 10 = .ok (.ladd, 1) := by decide +kernel
theorem dX0_mix_11 : decode cX0_mix 11 = .ok (.lstore 4, 2) := by decide +kernel
theorem dX0_mix_13 : decode cX0_mix 13 = .ok (.lload 4, 2) := by decide +kernel
theorem dX0_mix_15 : decode cX0_mix 15 = .ok (.lload 4, 2) := by decide +kernel
theorem dX0_mix_17 : decode cX0_mix 17 = .ok (.bipush 32, 2) := by decide +kernel
theorem dX0_mix_19 : decode cX0_mix 19 = .ok (.lushr, 1) := by decide +kernel
theorem dX0_mix_20 : decode cX0_mix 20 = .ok (.lxor, 1) := by decide +kernel
theorem dX0_mix_21 : decode cX0_mix 21 = .ok (.lstore 4, 2) := by decide +kernel
theorem dX0_mix_23 : decode cX0_mix 23 = .ok (.lload 4, 2) := by decide +kernel
theorem dX0_mix_25 : decode cX0_mix 25 = .ok (.ldc2_w 143, 3) := by decide +kernel
theorem dX0_mix_28 : decode cX0_mix 28 = .ok (.lmul, 1) := by decide +kernel
theorem dX0_mix_29 : decode cX0_mix 29 = .ok (.lstore 4, 2) := by decide +kernel
theorem dX0_mix_31 : decode cX0_mix 31 = .ok (.lload 4, 2) := by decide +kernel
theorem dX0_mix_33 : decode cX0_mix 33 = .ok (.lload 4, 2) := by decide +kernel
theorem dX0_mix_35 : decode cX0_mix 35 = .ok (.bipush 29, 2) := by decide +kernel
theorem dX0_mix_37 : decode cX0_mix 37 = .ok (.lushr, 1) := by decide +kernel
theorem dX0_mix_38 : decode cX0_mix 38 = .ok (.lxor, 1) := by decide +kernel
theorem dX0_mix_39 : decode cX0_mix 39 = .ok (.lreturn, 1) := by decide +kernel
theorem dX1_init_0 : decode cX1_init 0 = .ok (.aload_n 0, 1) := by decide +kernel
theorem dX1_init_1 : decode cX1_init 1 = .ok (.invokespecial 1, 3) := by decide +kernel
theorem dX1_init_4 : decode cX1_init 4 = .ok (.aload_n 0, 1) := by decide +kernel
theorem dX1_init_5 : decode cX1_init 5 = .ok (.bipush 8, 2) := by decide +kernel
theorem dX1_init_7 : decode cX1_init 7 = .ok (.newarray .int, 2) := by decide +kernel
theorem dX1_init_9 : decode cX1_init 9 = .ok (.putfield 7, 3) := by decide +kernel
theorem dX1_init_12 : decode cX1_init 12 = .ok (.return_, 1) := by decide +kernel
theorem dX1_thrown_0 : decode cX1_thrown 0 = .ok (.aload_n 0, 1) := by decide +kernel
theorem dX1_thrown_1 : decode cX1_thrown 1 = .ok (.getfield 13, 3) := by decide +kernel
theorem dX1_thrown_4 : decode cX1_thrown 4 = .ok (.ireturn, 1) := by decide +kernel
theorem dX1_h_0 : decode cX1_h 0 = .ok (.lload_n 0, 1) := by decide +kernel
theorem dX1_h_1 : decode cX1_h 1 = .ok (.ldc2_w 17, 3) := by decide +kernel
theorem dX1_h_4 : decode cX1_h 4 = .ok (.lxor, 1) := by decide +kernel
theorem dX1_h_5 : decode cX1_h 5 = .ok (.ldc2_w 19, 3) := by decide +kernel
theorem dX1_h_8 : decode cX1_h 8 = .ok (.lmul, 1) := by decide +kernel
theorem dX1_h_9 : decode cX1_h 9 = .ok (.lload_n 2, 1) := by decide +kernel
theorem dX1_h_10 : decode cX1_h 10 = .ok (.ladd, 1) := by decide +kernel
theorem dX1_h_11 : decode cX1_h 11 = .ok (.lstore 4, 2) := by decide +kernel
theorem dX1_h_13 : decode cX1_h 13 = .ok (.lload 4, 2) := by decide +kernel
theorem dX1_h_15 : decode cX1_h 15 = .ok (.lload 4, 2) := by decide +kernel
theorem dX1_h_17 : decode cX1_h 17 = .ok (.bipush 32, 2) := by decide +kernel
theorem dX1_h_19 : decode cX1_h 19 = .ok (.lushr, 1) := by decide +kernel
theorem dX1_h_20 : decode cX1_h 20 = .ok (.lxor, 1) := by decide +kernel
theorem dX1_h_21 : decode cX1_h 21 = .ok (.lstore 4, 2) := by decide +kernel
theorem dX1_h_23 : decode cX1_h 23 = .ok (.lload 4, 2) := by decide +kernel
theorem dX1_h_25 : decode cX1_h 25 = .ok (.ldc2_w 21, 3) := by decide +kernel
theorem dX1_h_28 : decode cX1_h 28 = .ok (.lmul, 1) := by decide +kernel
theorem dX1_h_29 : decode cX1_h 29 = .ok (.lstore 4, 2) := by decide +kernel
theorem dX1_h_31 : decode cX1_h 31 = .ok (.lload 4, 2) := by decide +kernel
theorem dX1_h_33 : decode cX1_h 33 = .ok (.lload 4, 2) := by decide +kernel
theorem dX1_h_35 : decode cX1_h 35 = .ok (.bipush 29, 2) := by decide +kernel
theorem dX1_h_37 : decode cX1_h 37 = .ok (.lushr, 1) := by decide +kernel
theorem dX1_h_38 : decode cX1_h 38 = .ok (.lxor, 1) := by decide +kernel
theorem dX1_h_39 : decode cX1_h 39 = .ok (.lreturn, 1) := by decide +kernel
theorem dX1_prime_0 : decode cX1_prime 0 = .ok (.iload_n 0, 1) := by decide +kernel
theorem dX1_prime_1 : decode cX1_prime 1 = .ok (.iconst 4, 1) := by decide +kernel
theorem dX1_prime_2 : decode cX1_prime 2 = .ok (.if_icmp .ge 14, 3) := by decide +kernel
theorem dX1_prime_5 : decode cX1_prime 5 = .ok (.iload_n 0, 1) := by decide +kernel
theorem dX1_prime_6 : decode cX1_prime 6 = .ok (.iconst 1, 1) := by decide +kernel
theorem dX1_prime_7 : decode cX1_prime 7 = .ok (.if_icmp .le 7, 3) := by decide +kernel
theorem dX1_prime_10 : decode cX1_prime 10 = .ok (.iconst 1, 1) := by decide +kernel
theorem dX1_prime_11 : decode cX1_prime 11 = .ok (.goto 4, 3) := by decide +kernel
theorem dX1_prime_14 : decode cX1_prime 14 = .ok (.iconst 0, 1) := by decide +kernel
theorem dX1_prime_15 : decode cX1_prime 15 = .ok (.ireturn, 1) := by decide +kernel
theorem dX1_prime_16 : decode cX1_prime 16 = .ok (.iload_n 0, 1) := by decide +kernel
theorem dX1_prime_17 : decode cX1_prime 17 = .ok (.iconst 2, 1) := by decide +kernel
theorem dX1_prime_18 : decode cX1_prime 18 = .ok (.irem, 1) := by decide +kernel
theorem dX1_prime_19 : decode cX1_prime 19 = .ok (.ifCond .ne 5, 3) := by decide +kernel
theorem dX1_prime_22 : decode cX1_prime 22 = .ok (.iconst 0, 1) := by decide +kernel
theorem dX1_prime_23 : decode cX1_prime 23 = .ok (.ireturn, 1) := by decide +kernel
theorem dX1_prime_24 : decode cX1_prime 24 = .ok (.ldc2_w 23, 3) := by decide +kernel
theorem dX1_prime_27 : decode cX1_prime 27 = .ok (.lstore_n 1, 1) := by decide +kernel
theorem dX1_prime_28 : decode cX1_prime 28 = .ok (.lload_n 1, 1) := by decide +kernel
theorem dX1_prime_29 : decode cX1_prime 29 = .ok (.lload_n 1, 1) := by decide +kernel
theorem dX1_prime_30 : decode cX1_prime 30 = .ok (.lmul, 1) := by decide +kernel
theorem dX1_prime_31 : decode cX1_prime 31 = .ok (.iload_n 0, 1) := by decide +kernel
theorem dX1_prime_32 : decode cX1_prime 32 = .ok (.i2l, 1) := by decide +kernel
theorem dX1_prime_33 : decode cX1_prime 33 = .ok (.lcmp, 1) := by decide +kernel
theorem dX1_prime_34 : decode cX1_prime 34 = .ok (.ifCond .gt 23, 3) := by decide +kernel
theorem dX1_prime_37 : decode cX1_prime 37 = .ok (.iload_n 0, 1) := by decide +kernel
theorem dX1_prime_38 : decode cX1_prime 38 = .ok (.i2l, 1) := by decide +kernel
theorem dX1_prime_39 : decode cX1_prime 39 = .ok (.lload_n 1, 1) := by decide +kernel
theorem dX1_prime_40 : decode cX1_prime 40 = .ok (.lrem, 1) := by decide +kernel
theorem dX1_prime_41 : decode cX1_prime 41 = .ok (.lconst 0, 1) := by decide +kernel
theorem dX1_prime_42 : decode cX1_prime 42 = .ok (.lcmp, 1) := by decide +kernel
theorem dX1_prime_43 : decode cX1_prime 43 = .ok (.ifCond .ne 5, 3) := by decide +kernel
theorem dX1_prime_46 : decode cX1_prime 46 = .ok (.iconst 0, 1) := by decide +kernel
theorem dX1_prime_47 : decode cX1_prime 47 = .ok (.ireturn, 1) := by decide +kernel
theorem dX1_prime_48 : decode cX1_prime 48 = .ok (.lload_n 1, 1) := by decide +kernel
theorem dX1_prime_49 : decode cX1_prime 49 = .ok (.ldc2_w 25, 3) := by decide +kernel
theorem dX1_prime_52 : decode cX1_prime 52 = .ok (.ladd, 1) := by decide +kernel
theorem dX1_prime_53 : decode cX1_prime 53 = .ok (.lstore_n 1, 1) := by decide +kernel
theorem dX1_prime_54 : decode cX1_prime 54 = .ok (.goto (-26), 3) := by decide +kernel
theorem dX1_prime_57 : decode cX1_prime 57 = .ok (.iconst 1, 1) := by decide +kernel
theorem dX1_prime_58 : decode cX1_prime 58 = .ok (.ireturn, 1) := by decide +kernel
theorem dX1_power_0 : decode cX1_power 0 = .ok (.lload_n 0, 1) := by decide +kernel
theorem dX1_power_1 : decode cX1_power 1 = .ok (.lload 4, 2) := by decide +kernel
theorem dX1_power_3 : decode cX1_power 3 = .ok (.lrem, 1) := by decide +kernel
theorem dX1_power_4 : decode cX1_power 4 = .ok (.lstore 6, 2) := by decide +kernel
theorem dX1_power_6 : decode cX1_power 6 = .ok (.lconst 1, 1) := by decide +kernel
theorem dX1_power_7 : decode cX1_power 7 = .ok (.lload 4, 2) := by decide +kernel
theorem dX1_power_9 : decode cX1_power 9 = .ok (.lrem, 1) := by decide +kernel
theorem dX1_power_10 : decode cX1_power 10 = .ok (.lstore 8, 2) := by decide +kernel
theorem dX1_power_12 : decode cX1_power 12 = .ok (.bipush 31, 2) := by decide +kernel
theorem dX1_power_14 : decode cX1_power 14 = .ok (.istore 10, 2) := by decide +kernel
theorem dX1_power_16 : decode cX1_power 16 = .ok (.iload 10, 2) := by decide +kernel
theorem dX1_power_18 : decode cX1_power 18 = .ok (.ifCond .lt 45, 3) := by decide +kernel
theorem dX1_power_21 : decode cX1_power 21 = .ok (.lload 8, 2) := by decide +kernel
theorem dX1_power_23 : decode cX1_power 23 = .ok (.lload 8, 2) := by decide +kernel
theorem dX1_power_25 : decode cX1_power 25 = .ok (.lmul, 1) := by decide +kernel
theorem dX1_power_26 : decode cX1_power 26 = .ok (.lload 4, 2) := by decide +kernel
theorem dX1_power_28 : decode cX1_power 28 = .ok (.lrem, 1) := by decide +kernel
theorem dX1_power_29 : decode cX1_power 29 = .ok (.lstore 8, 2) := by decide +kernel
theorem dX1_power_31 : decode cX1_power 31 = .ok (.lload_n 2, 1) := by decide +kernel
theorem dX1_power_32 : decode cX1_power 32 = .ok (.iload 10, 2) := by decide +kernel
theorem dX1_power_34 : decode cX1_power 34 = .ok (.lshr, 1) := by decide +kernel
theorem dX1_power_35 : decode cX1_power 35 = .ok (.lconst 1, 1) := by decide +kernel
theorem dX1_power_36 : decode cX1_power 36 = .ok (.land, 1) := by decide +kernel
theorem dX1_power_37 : decode cX1_power 37 = .ok (.lconst 1, 1) := by decide +kernel
theorem dX1_power_38 : decode cX1_power 38 = .ok (.lcmp, 1) := by decide +kernel
theorem dX1_power_39 : decode cX1_power 39 = .ok (.ifCond .ne 14, 3) := by decide +kernel
theorem dX1_power_42 : decode cX1_power 42 = .ok (.lload 8, 2) := by decide +kernel
theorem dX1_power_44 : decode cX1_power 44 = .ok (.lload 6, 2) := by decide +kernel
theorem dX1_power_46 : decode cX1_power 46 = .ok (.lmul, 1) := by decide +kernel
theorem dX1_power_47 : decode cX1_power 47 = .ok (.lload 4, 2) := by decide +kernel
theorem dX1_power_49 : decode cX1_power 49 = .ok (.lrem, 1) := by decide +kernel
theorem dX1_power_50 : decode cX1_power 50 = .ok (.goto 5, 3) := by decide +kernel
theorem dX1_power_53 : decode cX1_power 53 = .ok (.lload 8, 2) := by decide +kernel
theorem dX1_power_55 : decode cX1_power 55 = .ok (.lstore 8, 2) := by decide +kernel
theorem dX1_power_57 : decode cX1_power 57 = .ok (.iinc 10 (-1), 3) := by decide +kernel
theorem dX1_power_60 : decode cX1_power 60 = .ok (.goto (-44), 3) := by decide +kernel
theorem dX1_power_63 : decode cX1_power 63 = .ok (.lload 8, 2) := by decide +kernel
theorem dX1_power_65 : decode cX1_power 65 = .ok (.lreturn, 1) := by decide +kernel
set_option maxRecDepth 20000 in
theorem ggX1_make_X1_h : GoodIn wsX1_make wsX1_h := goodIn_r _ [9, 10, 11, 12] (by decide +kernel) (by decide +kernel)
set_option maxRecDepth 20000 in
theorem gX1_make_X1_h : GoodIn wsX1_make (va_wsS RX1 27 yX1_h wsX1_h) := goodIn_app (goodIn_of _ (by decide +kernel)) ggX1_make_X1_h
set_option maxRecDepth 20000 in
theorem ggX1_make_X1_prime : GoodIn wsX1_make wsX1_prime := goodIn_r _ [15, 16, 4] (by decide +kernel) (by decide +kernel)
set_option maxRecDepth 20000 in
theorem gX1_make_X1_prime : GoodIn wsX1_make (va_wsS RX1 34 yX1_prime wsX1_prime) := goodIn_app (goodIn_of _ (by decide +kernel)) ggX1_make_X1_prime
theorem dX1_make_0 : decode cX1_make 0 = .ok (.lload_n 1, 1) := by decide +kernel
theorem dX1_make_1 : decode cX1_make 1 = .ok (.lconst 0, 1) := by decide +kernel
theorem dX1_make_2 : decode cX1_make 2 = .ok (.invokestatic 27, 3) := by decide +kernel
theorem dX1_make_5 : decode cX1_make 5 = .ok (.bipush 51, 2) := by decide +kernel
theorem dX1_make_7 : decode cX1_make 7 = .ok (.lushr, 1) := by decide +kernel
theorem dX1_make_8 : decode cX1_make 8 = .ok (.lstore_n 3, 1) := by decide +kernel
theorem dX1_make_9 : decode cX1_make 9 = .ok (.aload_n 0, 1) := by decide +kernel
theorem dX1_make_10 : decode cX1_make 10 = .ok (.sipush 16385, 3) := by decide +kernel
theorem dX1_make_13 : decode cX1_make 13 = .ok (.iconst 2, 1) := by decide +kernel
theorem dX1_make_14 : decode cX1_make 14 = .ok (.lload_n 3, 1) := by decide +kernel
theorem dX1_make_15 : decode cX1_make 15 = .ok (.l2i, 1) := by decide +kernel
theorem dX1_make_16 : decode cX1_make 16 = .ok (.imul, 1) := by decide +kernel
theorem dX1_make_17 : decode cX1_make 17 = .ok (.iadd, 1) := by decide +kernel
theorem dX1_make_18 : decode cX1_make 18 = .ok (.putfield 31, 3) := by decide +kernel
theorem dX1_make_21 : decode cX1_make 21 = .ok (.aload_n 0, 1) := by decide +kernel
theorem dX1_make_22 : decode cX1_make 22 = .ok (.aload_n 0, 1) := by decide +kernel
theorem dX1_make_23 : decode cX1_make 23 = .ok (.getfield 31, 3) := by decide +kernel
theorem dX1_make_26 : decode cX1_make 26 = .ok (.invokestatic 34, 3) := by decide +kernel
theorem dX1_make_29 : decode cX1_make 29 = .ok (.ifCond .eq 8, 3) := by decide +kernel
theorem dX1_make_32 : decode cX1_make 32 = .ok (.bipush (-2), 2) := by decide +kernel
theorem dX1_make_34 : decode cX1_make 34 = .ok (.goto 4, 3) := by decide +kernel
theorem dX1_make_37 : decode cX1_make 37 = .ok (.iconst (-1), 1) := by decide +kernel
theorem dX1_make_38 : decode cX1_make 38 = .ok (.putfield 38, 3) := by decide +kernel
theorem dX1_make_41 : decode cX1_make 41 = .ok (.iconst 0, 1) := by decide +kernel
theorem dX1_make_42 : decode cX1_make 42 = .ok (.istore 5, 2) := by decide +kernel
theorem dX1_make_44 : decode cX1_make 44 = .ok (.iload 5, 2) := by decide +kernel
theorem dX1_make_46 : decode cX1_make 46 = .ok (.bipush 64, 2) := by decide +kernel
theorem dX1_make_48 : decode cX1_make 48 = .ok (.if_icmp .ge 86, 3) := by decide +kernel
theorem dX1_make_51 : decode cX1_make 51 = .ok (.aload_n 0, 1) := by decide +kernel
theorem dX1_make_52 : decode cX1_make 52 = .ok (.getfield 38, 3) := by decide +kernel
theorem dX1_make_55 : decode cX1_make 55 = .ok (.bipush (-2), 2) := by decide +kernel
theorem dX1_make_57 : decode cX1_make 57 = .ok (.if_icmp .ne 77, 3) := by decide +kernel
theorem dX1_make_60 : decode cX1_make 60 = .ok (.ldc2_w 41, 3) := by decide +kernel
theorem dX1_make_63 : decode cX1_make 63 = .ok (.lload_n 1, 1) := by decide +kernel
theorem dX1_make_64 : decode cX1_make 64 = .ok (.lconst 1, 1) := by decide +kernel
theorem dX1_make_65 : decode cX1_make 65 = .ok (.iload 5, 2) := by decide +kernel
theorem dX1_make_67 : decode cX1_make 67 = .ok (.i2l, 1) := by decide +kernel
theorem dX1_make_68 : decode cX1_make 68 = .ok (.ladd, 1) := by decide +kernel
theorem dX1_make_69 : decode cX1_make 69 = .ok (.invokestatic 27, 3) := by decide +kernel
theorem dX1_make_72 : decode cX1_make 72 = .ok (.bipush 34, 2) := by decide +kernel
theorem dX1_make_74 : decode cX1_make 74 = .ok (.lushr, 1) := by decide +kernel
theorem dX1_make_75 : decode cX1_make 75 = .ok (.ladd, 1) := by decide +kernel
theorem dX1_make_76 : decode cX1_make 76 = .ok (.lstore 6, 2) := by decide +kernel
theorem dX1_make_78 : decode cX1_make 78 = .ok (.lload 6, 2) := by decide +kernel
theorem dX1_make_80 : decode cX1_make 80 = .ok (.lload 6, 2) := by decide +kernel
theorem dX1_make_82 : decode cX1_make 82 = .ok (.ldc2_w 25, 3) := by decide +kernel
theorem dX1_make_85 : decode cX1_make 85 = .ok (.aload_n 0, 1) := by decide +kernel
theorem dX1_make_86 : decode cX1_make 86 = .ok (.getfield 31, 3) := by decide +kernel
theorem dX1_make_89 : decode cX1_make 89 = .ok (.i2l, 1) := by decide +kernel
theorem dX1_make_90 : decode cX1_make 90 = .ok (.lmul, 1) := by decide +kernel
theorem dX1_make_91 : decode cX1_make 91 = .ok (.lrem, 1) := by decide +kernel
theorem dX1_make_92 : decode cX1_make 92 = .ok (.lsub, 1) := by decide +kernel
theorem dX1_make_93 : decode cX1_make 93 = .ok (.lconst 1, 1) := by decide +kernel
theorem dX1_make_94 : decode cX1_make 94 = .ok (.ladd, 1) := by decide +kernel
theorem dX1_make_95 : decode cX1_make 95 = .ok (.lstore 8, 2) := by decide +kernel
theorem dX1_make_97 : decode cX1_make 97 = .ok (.lload 8, 2) := by decide +kernel
theorem dX1_make_99 : decode cX1_make 99 = .ok (.ldc2_w 41, 3) := by decide +kernel
theorem dX1_make_102 : decode cX1_make 102 = .ok (.lcmp, 1) := by decide +kernel
theorem dX1_make_103 : decode cX1_make 103 = .ok (.ifCond .le 25, 3) := by decide +kernel
theorem dX1_make_106 : decode cX1_make 106 = .ok (.lload 8, 2) := by decide +kernel
theorem dX1_make_108 : decode cX1_make 108 = .ok (.l2i, 1) := by decide +kernel
theorem dX1_make_109 : decode cX1_make 109 = .ok (.invokestatic 34, 3) := by decide +kernel
theorem dX1_make_112 : decode cX1_make 112 = .ok (.ifCond .eq 16, 3) := by decide +kernel
theorem dX1_make_115 : decode cX1_make 115 = .ok (.aload_n 0, 1) := by decide +kernel
theorem dX1_make_116 : decode cX1_make 116 = .ok (.lload 8, 2) := by decide +kernel
theorem dX1_make_118 : decode cX1_make 118 = .ok (.l2i, 1) := by decide +kernel
theorem dX1_make_119 : decode cX1_make 119 = .ok (.putfield 43, 3) := by decide +kernel
theorem dX1_make_122 : decode cX1_make 122 = .ok (.aload_n 0, 1) := by decide +kernel
theorem dX1_make_123 : decode cX1_make 123 = .ok (.iload 5, 2) := by decide +kernel
theorem dX1_make_125 : decode cX1_make 125 = .ok (.putfield 38, 3) := by decide +kernel
theorem dX1_make_128 : decode cX1_make 128 = .ok (.iinc 5 1, 3) := by decide +kernel
theorem dX1_make_131 : decode cX1_make 131 = .ok (.goto (-87), 3) := by decide +kernel
theorem dX1_make_134 : decode cX1_make 134 = .ok (.return_, 1) := by decide +kernel
set_option maxRecDepth 20000 in
theorem ggX1_generate_X1_make : GoodIn wsX1_generate wsX1_make := goodIn_r _ [14, 7, 2, 15, 16, 5, 17, 18, 13, 19, 20, 21, 22, 23, 24, 25, 26, 27, 28, 29, 30, 31, 32, 33, 34, 35, 36, 37, 38, 39] (by decide +kernel) (by decide +kernel)
set_option maxRecDepth 20000 in
theorem gX1_generate_X1_make : GoodIn wsX1_generate (wsV RX1 46 RX1 yX1_make wsX1_make) := goodIn_app (goodIn_of _ (by decide +kernel)) ggX1_generate_X1_make
theorem dX1_generate_0 : decode cX1_generate 0 = .ok (.aload_n 0, 1) := by decide +kernel
theorem dX1_generate_1 : decode cX1_generate 1 = .ok (.iconst 0, 1) := by decide +kernel
theorem dX1_generate_2 : decode cX1_generate 2 = .ok (.putfield 13, 3) := by decide +kernel
theorem dX1_generate_5 : decode cX1_generate 5 = .ok (.aload_n 0, 1) := by decide +kernel
theorem dX1_generate_6 : decode cX1_generate 6 = .ok (.lload_n 1, 1) := by decide +kernel
theorem dX1_generate_7 : decode cX1_generate 7 = .ok (.invokevirtual 46, 3) := by decide +kernel
theorem dX1_generate_10 : decode cX1_generate 10 = .ok (.aload_n 0, 1) := by decide +kernel
theorem dX1_generate_11 : decode cX1_generate 11 = .ok (.getfield 38, 3) := by decide +kernel
theorem dX1_generate_14 : decode cX1_generate 14 = .ok (.ifCond .lt 37, 3) := by decide +kernel
theorem dX1_generate_17 : decode cX1_generate 17 = .ok (.aload_n 0, 1) := by decide +kernel
theorem dX1_generate_18 : decode cX1_generate 18 = .ok (.iconst 1, 1) := by decide +kernel
theorem dX1_generate_19 : decode cX1_generate 19 = .ok (.putfield 50, 3) := by decide +kernel
theorem dX1_generate_22 : decode cX1_generate 22 = .ok (.aload_n 0, 1) := by decide +kernel
theorem dX1_generate_23 : decode cX1_generate 23 = .ok (.lload_n 1, 1) := by decide +kernel
theorem dX1_generate_24 : decode cX1_generate 24 = .ok (.putfield 54, 3) := by decide +kernel
theorem dX1_generate_27 : decode cX1_generate 27 = .ok (.aload_n 0, 1) := by decide +kernel
theorem dX1_generate_28 : decode cX1_generate 28 = .ok (.aload_n 0, 1) := by decide +kernel
theorem dX1_generate_29 : decode cX1_generate 29 = .ok (.getfield 43, 3) := by decide +kernel
theorem dX1_generate_32 : decode cX1_generate 32 = .ok (.putfield 58, 3) := by decide +kernel
theorem dX1_generate_35 : decode cX1_generate 35 = .ok (.aload_n 0, 1) := by decide +kernel
theorem dX1_generate_36 : decode cX1_generate 36 = .ok (.aload_n 0, 1) := by decide +kernel
theorem dX1_generate_37 : decode cX1_generate 37 = .ok (.getfield 31, 3) := by decide +kernel
theorem dX1_generate_40 : decode cX1_generate 40 = .ok (.putfield 61, 3) := by decide +kernel
theorem dX1_generate_43 : decode cX1_generate 43 = .ok (.aload_n 0, 1) := by decide +kernel
theorem dX1_generate_44 : decode cX1_generate 44 = .ok (.aload_n 0, 1) := by decide +kernel
theorem dX1_generate_45 : decode cX1_generate 45 = .ok (.getfield 38, 3) := by decide +kernel
theorem dX1_generate_48 : decode cX1_generate 48 = .ok (.putfield 64, 3) := by decide +kernel
theorem dX1_generate_51 : decode cX1_generate 51 = .ok (.aload_n 0, 1) := by decide +kernel
theorem dX1_generate_52 : decode cX1_generate 52 = .ok (.getfield 38, 3) := by decide +kernel
theorem dX1_generate_55 : decode cX1_generate 55 = .ok (.ireturn, 1) := by decide +kernel
theorem dX1_candidate_0 : decode cX1_candidate 0 = .ok (.aload_n 0, 1) := by decide +kernel
theorem dX1_candidate_1 : decode cX1_candidate 1 = .ok (.iconst 0, 1) := by decide +kernel
theorem dX1_candidate_2 : decode cX1_candidate 2 = .ok (.putfield 13, 3) := by decide +kernel
theorem dX1_candidate_5 : decode cX1_candidate 5 = .ok (.aload_n 0, 1) := by decide +kernel
theorem dX1_candidate_6 : decode cX1_candidate 6 = .ok (.getfield 50, 3) := by decide +kernel
theorem dX1_candidate_9 : decode cX1_candidate 9 = .ok (.ifCond .ne 5, 3) := by decide +kernel
theorem dX1_candidate_12 : decode cX1_candidate 12 = .ok (.lconst 0, 1) := by decide +kernel
theorem dX1_candidate_13 : decode cX1_candidate 13 = .ok (.lreturn, 1) := by decide +kernel
theorem dX1_candidate_14 : decode cX1_candidate 14 = .ok (.iload_n 1, 1) := by decide +kernel
theorem dX1_candidate_15 : decode cX1_candidate 15 = .ok (.ifCond .ne 11, 3) := by decide +kernel
theorem dX1_candidate_18 : decode cX1_candidate 18 = .ok (.aload_n 0, 1) := by decide +kernel
theorem dX1_candidate_19 : decode cX1_candidate 19 = .ok (.getfield 58, 3) := by decide +kernel
theorem dX1_candidate_22 : decode cX1_candidate 22 = .ok (.i2l, 1) := by decide +kernel
theorem dX1_candidate_23 : decode cX1_candidate 23 = .ok (.goto 42, 3) := by decide +kernel
theorem dX1_candidate_26 : decode cX1_candidate 26 = .ok (.iload_n 1, 1) := by decide +kernel
theorem dX1_candidate_27 : decode cX1_candidate 27 = .ok (.iconst 1, 1) := by decide +kernel
theorem dX1_candidate_28 : decode cX1_candidate 28 = .ok (.if_icmp .ne 11, 3) := by decide +kernel
theorem dX1_candidate_31 : decode cX1_candidate 31 = .ok (.aload_n 0, 1) := by decide +kernel
theorem dX1_candidate_32 : decode cX1_candidate 32 = .ok (.getfield 61, 3) := by decide +kernel
theorem dX1_candidate_35 : decode cX1_candidate 35 = .ok (.i2l, 1) := by decide +kernel
theorem dX1_candidate_36 : decode cX1_candidate 36 = .ok (.goto 29, 3) := by decide +kernel
theorem dX1_candidate_39 : decode cX1_candidate 39 = .ok (.iload_n 1, 1) := by decide +kernel
theorem dX1_candidate_40 : decode cX1_candidate 40 = .ok (.iconst 2, 1) := by decide +kernel
theorem dX1_candidate_41 : decode cX1_candidate 41 = .ok (.if_icmp .ne 10, 3) := by decide +kernel
theorem dX1_candidate_44 : decode cX1_candidate 44 = .ok (.aload_n 0, 1) := by decide +kernel
theorem dX1_candidate_45 : decode cX1_candidate 45 = .ok (.getfield 54, 3) := by decide +kernel
theorem dX1_candidate_48 : decode cX1_candidate 48 = .ok (.goto 17, 3) := by decide +kernel
theorem dX1_candidate_51 : decode cX1_candidate 51 = .ok (.iload_n 1, 1) := by decide +kernel
theorem dX1_candidate_52 : decode cX1_candidate 52 = .ok (.iconst 3, 1) := by decide +kernel
theorem dX1_candidate_53 : decode cX1_candidate 53 = .ok (.if_icmp .ne 11, 3) := by decide +kernel
theorem dX1_candidate_56 : decode cX1_candidate 56 = .ok (.aload_n 0, 1) := by decide +kernel
theorem dX1_candidate_57 : decode cX1_candidate 57 = .ok (.getfield 64, 3) := by decide +kernel
theorem dX1_candidate_60 : decode cX1_candidate 60 = .ok (.i2l, 1) := by decide +kernel
theorem dX1_candidate_61 : decode cX1_candidate 61 = .ok (.goto 4, 3) := by decide +kernel
theorem dX1_candidate_64 : decode cX1_candidate 64 = .ok (.lconst 0, 1) := by decide +kernel
theorem dX1_candidate_65 : decode cX1_candidate 65 = .ok (.lreturn, 1) := by decide +kernel
set_option maxRecDepth 20000 in
theorem ggX1_generator_X1_h : GoodIn wsX1_generator wsX1_h := goodIn_r _ [10, 11, 12, 13] (by decide +kernel) (by decide +kernel)
set_option maxRecDepth 20000 in
theorem gX1_generator_X1_h : GoodIn wsX1_generator (va_wsS RX1 27 yX1_h wsX1_h) := goodIn_app (goodIn_of _ (by decide +kernel)) ggX1_generator_X1_h
set_option maxRecDepth 20000 in
theorem ggX1_generator_X1_power : GoodIn wsX1_generator wsX1_power := goodIn_r _ [16] (by decide +kernel) (by decide +kernel)
set_option maxRecDepth 20000 in
theorem gX1_generator_X1_power : GoodIn wsX1_generator (va_wsS RX1 69 yX1_power wsX1_power) := goodIn_app (goodIn_of _ (by decide +kernel)) ggX1_generator_X1_power
theorem dX1_generator_0 : decode cX1_generator 0 = .ok (.aload_n 0, 1) := by decide +kernel
theorem dX1_generator_1 : decode cX1_generator 1 = .ok (.aload_n 0, 1) := by decide +kernel
theorem dX1_generator_2 : decode cX1_generator 2 = .ok (.getfield 50, 3) := by decide +kernel
theorem dX1_generator_5 : decode cX1_generator 5 = .ok (.ifCond .ne 7, 3) := by decide +kernel
theorem dX1_generator_8 : decode cX1_generator 8 = .ok (.iconst 1, 1) := by decide +kernel
theorem dX1_generator_9 : decode cX1_generator 9 = .ok (.goto 19, 3) := by decide +kernel
theorem dX1_generator_12 : decode cX1_generator 12 = .ok (.iload_n 1, 1) := by decide +kernel
theorem dX1_generator_13 : decode cX1_generator 13 = .ok (.ifCond .lt 10, 3) := by decide +kernel
theorem dX1_generator_16 : decode cX1_generator 16 = .ok (.iload_n 1, 1) := by decide +kernel
theorem dX1_generator_17 : decode cX1_generator 17 = .ok (.sipush 255, 3) := by decide +kernel
theorem dX1_generator_20 : decode cX1_generator 20 = .ok (.if_icmp .le 7, 3) := by decide +kernel
theorem dX1_generator_23 : decode cX1_generator 23 = .ok (.iconst 2, 1) := by decide +kernel
theorem dX1_generator_24 : decode cX1_generator 24 = .ok (.goto 4, 3) := by decide +kernel
theorem dX1_generator_27 : decode cX1_generator 27 = .ok (.iconst 0, 1) := by decide +kernel
theorem dX1_generator_28 : decode cX1_generator 28 = .ok (.putfield 13, 3) := by decide +kernel
theorem dX1_generator_31 : decode cX1_generator 31 = .ok (.aload_n 0, 1) := by decide +kernel
theorem dX1_generator_32 : decode cX1_generator 32 = .ok (.getfield 13, 3) := by decide +kernel
theorem dX1_generator_35 : decode cX1_generator 35 = .ok (.ifCond .eq 5, 3) := by decide +kernel
theorem dX1_generator_38 : decode cX1_generator 38 = .ok (.iconst 0, 1) := by decide +kernel
theorem dX1_generator_39 : decode cX1_generator 39 = .ok (.ireturn, 1) := by decide +kernel
theorem dX1_generator_40 : decode cX1_generator 40 = .ok (.aload_n 0, 1) := by decide +kernel
theorem dX1_generator_41 : decode cX1_generator 41 = .ok (.getfield 54, 3) := by decide +kernel
theorem dX1_generator_44 : decode cX1_generator 44 = .ok (.ldc2_w 67, 3) := by decide +kernel
theorem dX1_generator_47 : decode cX1_generator 47 = .ok (.iload_n 1, 1) := by decide +kernel
theorem dX1_generator_48 : decode cX1_generator 48 = .ok (.i2l, 1) := by decide +kernel
theorem dX1_generator_49 : decode cX1_generator 49 = .ok (.ladd, 1) := by decide +kernel
theorem dX1_generator_50 : decode cX1_generator 50 = .ok (.invokestatic 27, 3) := by decide +kernel
theorem dX1_generator_53 : decode cX1_generator 53 = .ok (.lstore_n 2, 1) := by decide +kernel
theorem dX1_generator_54 : decode cX1_generator 54 = .ok (.iconst 1, 1) := by decide +kernel
theorem dX1_generator_55 : decode cX1_generator 55 = .ok (.istore 4, 2) := by decide +kernel
theorem dX1_generator_57 : decode cX1_generator 57 = .ok (.iload 4, 2) := by decide +kernel
theorem dX1_generator_59 : decode cX1_generator 59 = .ok (.bipush 100, 2) := by decide +kernel
theorem dX1_generator_61 : decode cX1_generator 61 = .ok (.if_icmp .gt 61, 3) := by decide +kernel
theorem dX1_generator_64 : decode cX1_generator 64 = .ok (.lload_n 2, 1) := by decide +kernel
theorem dX1_generator_65 : decode cX1_generator 65 = .ok (.iload 4, 2) := by decide +kernel
theorem dX1_generator_67 : decode cX1_generator 67 = .ok (.i2l, 1) := by decide +kernel
theorem dX1_generator_68 : decode cX1_generator 68 = .ok (.invokestatic 27, 3) := by decide +kernel
theorem dX1_generator_71 : decode cX1_generator 71 = .ok (.iconst 1, 1) := by decide +kernel
theorem dX1_generator_72 : decode cX1_generator 72 = .ok (.lushr, 1) := by decide +kernel
theorem dX1_generator_73 : decode cX1_generator 73 = .ok (.lstore 5, 2) := by decide +kernel
theorem dX1_generator_75 : decode cX1_generator 75 = .ok (.lload 5, 2) := by decide +kernel
theorem dX1_generator_77 : decode cX1_generator 77 = .ok (.aload_n 0, 1) := by decide +kernel
theorem dX1_generator_78 : decode cX1_generator 78 = .ok (.getfield 58, 3) := by decide +kernel
theorem dX1_generator_81 : decode cX1_generator 81 = .ok (.i2l, 1) := by decide +kernel
theorem dX1_generator_82 : decode cX1_generator 82 = .ok (.lrem, 1) := by decide +kernel
theorem dX1_generator_83 : decode cX1_generator 83 = .ok (.aload_n 0, 1) := by decide +kernel
theorem dX1_generator_84 : decode cX1_generator 84 = .ok (.getfield 58, 3) := by decide +kernel
theorem dX1_generator_87 : decode cX1_generator 87 = .ok (.iconst 1, 1) := by decide +kernel
theorem dX1_generator_88 : decode cX1_generator 88 = .ok (.isub, 1) := by decide +kernel
theorem dX1_generator_89 : decode cX1_generator 89 = .ok (.aload_n 0, 1) := by decide +kernel
theorem dX1_generator_90 : decode cX1_generator 90 = .ok (.getfield 61, 3) := by decide +kernel
theorem dX1_generator_93 : decode cX1_generator 93 = .ok (.idiv, 1) := by decide +kernel
theorem dX1_generator_94 : decode cX1_generator 94 = .ok (.i2l, 1) := by decide +kernel
theorem dX1_generator_95 : decode cX1_generator 95 = .ok (.aload_n 0, 1) := by decide +kernel
theorem dX1_generator_96 : decode cX1_generator 96 = .ok (.getfield 58, 3) := by decide +kernel
theorem dX1_generator_99 : decode cX1_generator 99 = .ok (.i2l, 1) := by decide +kernel
theorem dX1_generator_100 : decode cX1_generator 100 = .ok (.invokestatic 69, 3) := by decide +kernel
theorem dX1_generator_103 : decode cX1_generator 103 = .ok (.lstore 7, 2) := by decide +kernel
theorem dX1_generator_105 : decode cX1_generator 105 = .ok (.lload 7, 2) := by decide +kernel
theorem dX1_generator_107 : decode cX1_generator 107 = .ok (.lconst 1, 1) := by decide +kernel
theorem dX1_generator_108 : decode cX1_generator 108 = .ok (.lcmp, 1) := by decide +kernel
theorem dX1_generator_109 : decode cX1_generator 109 = .ok (.ifCond .le 7, 3) := by decide +kernel
theorem dX1_generator_112 : decode cX1_generator 112 = .ok (.lload 7, 2) := by decide +kernel
theorem dX1_generator_114 : decode cX1_generator 114 = .ok (.l2i, 1) := by decide +kernel
theorem dX1_generator_115 : decode cX1_generator 115 = .ok (.ireturn, 1) := by decide +kernel
theorem dX1_generator_116 : decode cX1_generator 116 = .ok (.iinc 4 1, 3) := by decide +kernel
theorem dX1_generator_119 : decode cX1_generator 119 = .ok (.goto (-62), 3) := by decide +kernel
theorem dX1_generator_122 : decode cX1_generator 122 = .ok (.iconst 1, 1) := by decide +kernel
theorem dX1_generator_123 : decode cX1_generator 123 = .ok (.ireturn, 1) := by decide +kernel
set_option maxRecDepth 20000 in
theorem ggX1_valid_X1_make : GoodIn wsX1_valid wsX1_make := goodIn_r _ [9, 4, 2, 10, 11, 3, 12, 13, 8, 14, 15, 16, 17, 18, 19, 20, 21, 22, 23, 24, 25, 26, 27, 28, 29, 30, 31, 32, 33, 34] (by decide +kernel) (by decide +kernel)
set_option maxRecDepth 20000 in
theorem gX1_valid_X1_make : GoodIn wsX1_valid (wsV RX1 46 RX1 yX1_make wsX1_make) := goodIn_app (goodIn_of _ (by decide +kernel)) ggX1_valid_X1_make
theorem dX1_valid_0 : decode cX1_valid 0 = .ok (.aload_n 0, 1) := by decide +kernel
theorem dX1_valid_1 : decode cX1_valid 1 = .ok (.iconst 0, 1) := by decide +kernel
theorem dX1_valid_2 : decode cX1_valid 2 = .ok (.putfield 13, 3) := by decide +kernel
theorem dX1_valid_5 : decode cX1_valid 5 = .ok (.aload_n 0, 1) := by decide +kernel
theorem dX1_valid_6 : decode cX1_valid 6 = .ok (.lload_n 3, 1) := by decide +kernel
theorem dX1_valid_7 : decode cX1_valid 7 = .ok (.invokevirtual 46, 3) := by decide +kernel
theorem dX1_valid_10 : decode cX1_valid 10 = .ok (.aload_n 0, 1) := by decide +kernel
theorem dX1_valid_11 : decode cX1_valid 11 = .ok (.getfield 38, 3) := by decide +kernel
theorem dX1_valid_14 : decode cX1_valid 14 = .ok (.ifCond .lt 32, 3) := by decide +kernel
theorem dX1_valid_17 : decode cX1_valid 17 = .ok (.aload_n 0, 1) := by decide +kernel
theorem dX1_valid_18 : decode cX1_valid 18 = .ok (.getfield 38, 3) := by decide +kernel
theorem dX1_valid_21 : decode cX1_valid 21 = .ok (.iload 5, 2) := by decide +kernel
theorem dX1_valid_23 : decode cX1_valid 23 = .ok (.if_icmp .ne 23, 3) := by decide +kernel
theorem dX1_valid_26 : decode cX1_valid 26 = .ok (.aload_n 0, 1) := by decide +kernel
theorem dX1_valid_27 : decode cX1_valid 27 = .ok (.getfield 43, 3) := by decide +kernel
theorem dX1_valid_30 : decode cX1_valid 30 = .ok (.iload_n 1, 1) := by decide +kernel
theorem dX1_valid_31 : decode cX1_valid 31 = .ok (.if_icmp .ne 15, 3) := by decide +kernel
theorem dX1_valid_34 : decode cX1_valid 34 = .ok (.aload_n 0, 1) := by decide +kernel
theorem dX1_valid_35 : decode cX1_valid 35 = .ok (.getfield 31, 3) := by decide +kernel
theorem dX1_valid_38 : decode cX1_valid 38 = .ok (.iload_n 2, 1) := by decide +kernel
theorem dX1_valid_39 : decode cX1_valid 39 = .ok (.if_icmp .ne 7, 3) := by decide +kernel
theorem dX1_valid_42 : decode cX1_valid 42 = .ok (.iconst 1, 1) := by decide +kernel
theorem dX1_valid_43 : decode cX1_valid 43 = .ok (.goto 4, 3) := by decide +kernel
theorem dX1_valid_46 : decode cX1_valid 46 = .ok (.iconst 0, 1) := by decide +kernel
theorem dX1_valid_47 : decode cX1_valid 47 = .ok (.ireturn, 1) := by decide +kernel
set_option maxRecDepth 20000 in
theorem ggX1_adopt_X1_prime : GoodIn wsX1_adopt wsX1_prime := goodIn_r _ [9, 10, 11] (by decide +kernel) (by decide +kernel)
set_option maxRecDepth 20000 in
theorem gX1_adopt_X1_prime : GoodIn wsX1_adopt (va_wsS RX1 34 yX1_prime wsX1_prime) := goodIn_app (goodIn_of _ (by decide +kernel)) ggX1_adopt_X1_prime
set_option maxRecDepth 20000 in
theorem ggX1_adopt_X1_power : GoodIn wsX1_adopt wsX1_power := goodIn_r _ [14] (by decide +kernel) (by decide +kernel)
set_option maxRecDepth 20000 in
theorem gX1_adopt_X1_power : GoodIn wsX1_adopt (va_wsS RX1 69 yX1_power wsX1_power) := goodIn_app (goodIn_of _ (by decide +kernel)) ggX1_adopt_X1_power
theorem dX1_adopt_0 : decode cX1_adopt 0 = .ok (.iload_n 1, 1) := by decide +kernel
theorem dX1_adopt_1 : decode cX1_adopt 1 = .ok (.iconst 2, 1) := by decide +kernel
theorem dX1_adopt_2 : decode cX1_adopt 2 = .ok (.if_icmp .le 32, 3) := by decide +kernel
theorem dX1_adopt_5 : decode cX1_adopt 5 = .ok (.iload_n 2, 1) := by decide +kernel
theorem dX1_adopt_6 : decode cX1_adopt 6 = .ok (.iconst 2, 1) := by decide +kernel
theorem dX1_adopt_7 : decode cX1_adopt 7 = .ok (.if_icmp .le 27, 3) := by decide +kernel
theorem dX1_adopt_10 : decode cX1_adopt 10 = .ok (.iload_n 1, 1) := by decide +kernel
theorem dX1_adopt_11 : decode cX1_adopt 11 = .ok (.iconst 1, 1) := by decide +kernel
theorem dX1_adopt_12 : decode cX1_adopt 12 = .ok (.isub, 1) := by decide +kernel
theorem dX1_adopt_13 : decode cX1_adopt 13 = .ok (.iload_n 2, 1) := by decide +kernel
theorem dX1_adopt_14 : decode cX1_adopt 14 = .ok (.irem, 1) := by decide +kernel
theorem dX1_adopt_15 : decode cX1_adopt 15 = .ok (.ifCond .ne 19, 3) := by decide +kernel
theorem dX1_adopt_18 : decode cX1_adopt 18 = .ok (.iload_n 3, 1) := by decide +kernel
theorem dX1_adopt_19 : decode cX1_adopt 19 = .ok (.iconst 2, 1) := by decide +kernel
theorem dX1_adopt_20 : decode cX1_adopt 20 = .ok (.if_icmp .lt 14, 3) := by decide +kernel
theorem dX1_adopt_23 : decode cX1_adopt 23 = .ok (.iload_n 3, 1) := by decide +kernel
theorem dX1_adopt_24 : decode cX1_adopt 24 = .ok (.iload_n 1, 1) := by decide +kernel
theorem dX1_adopt_25 : decode cX1_adopt 25 = .ok (.iconst 1, 1) := by decide +kernel
theorem dX1_adopt_26 : decode cX1_adopt 26 = .ok (.isub, 1) := by decide +kernel
theorem dX1_adopt_27 : decode cX1_adopt 27 = .ok (.if_icmp .gt 7, 3) := by decide +kernel
theorem dX1_adopt_30 : decode cX1_adopt 30 = .ok (.iconst 1, 1) := by decide +kernel
theorem dX1_adopt_31 : decode cX1_adopt 31 = .ok (.goto 4, 3) := by decide +kernel
theorem dX1_adopt_34 : decode cX1_adopt 34 = .ok (.iconst 0, 1) := by decide +kernel
theorem dX1_adopt_35 : decode cX1_adopt 35 = .ok (.istore 4, 2) := by decide +kernel
theorem dX1_adopt_37 : decode cX1_adopt 37 = .ok (.iload 4, 2) := by decide +kernel
theorem dX1_adopt_39 : decode cX1_adopt 39 = .ok (.ifCond .eq 35, 3) := by decide +kernel
theorem dX1_adopt_42 : decode cX1_adopt 42 = .ok (.iload_n 1, 1) := by decide +kernel
theorem dX1_adopt_43 : decode cX1_adopt 43 = .ok (.invokestatic 34, 3) := by decide +kernel
theorem dX1_adopt_46 : decode cX1_adopt 46 = .ok (.ifCond .eq 28, 3) := by decide +kernel
theorem dX1_adopt_49 : decode cX1_adopt 49 = .ok (.iload_n 2, 1) := by decide +kernel
theorem dX1_adopt_50 : decode cX1_adopt 50 = .ok (.invokestatic 34, 3) := by decide +kernel
theorem dX1_adopt_53 : decode cX1_adopt 53 = .ok (.ifCond .eq 21, 3) := by decide +kernel
theorem dX1_adopt_56 : decode cX1_adopt 56 = .ok (.iload_n 3, 1) := by decide +kernel
theorem dX1_adopt_57 : decode cX1_adopt 57 = .ok (.i2l, 1) := by decide +kernel
theorem dX1_adopt_58 : decode cX1_adopt 58 = .ok (.iload_n 2, 1) := by decide +kernel
theorem dX1_adopt_59 : decode cX1_adopt 59 = .ok (.i2l, 1) := by decide +kernel
theorem dX1_adopt_60 : decode cX1_adopt 60 = .ok (.iload_n 1, 1) := by decide +kernel
theorem dX1_adopt_61 : decode cX1_adopt 61 = .ok (.i2l, 1) := by decide +kernel
theorem dX1_adopt_62 : decode cX1_adopt 62 = .ok (.invokestatic 69, 3) := by decide +kernel
theorem dX1_adopt_65 : decode cX1_adopt 65 = .ok (.lconst 1, 1) := by decide +kernel
theorem dX1_adopt_66 : decode cX1_adopt 66 = .ok (.lcmp, 1) := by decide +kernel
theorem dX1_adopt_67 : decode cX1_adopt 67 = .ok (.ifCond .ne 7, 3) := by decide +kernel
theorem dX1_adopt_70 : decode cX1_adopt 70 = .ok (.iconst 1, 1) := by decide +kernel
theorem dX1_adopt_71 : decode cX1_adopt 71 = .ok (.goto 4, 3) := by decide +kernel
theorem dX1_adopt_74 : decode cX1_adopt 74 = .ok (.iconst 0, 1) := by decide +kernel
theorem dX1_adopt_75 : decode cX1_adopt 75 = .ok (.istore 4, 2) := by decide +kernel
theorem dX1_adopt_77 : decode cX1_adopt 77 = .ok (.aload_n 0, 1) := by decide +kernel
theorem dX1_adopt_78 : decode cX1_adopt 78 = .ok (.iload 4, 2) := by decide +kernel
theorem dX1_adopt_80 : decode cX1_adopt 80 = .ok (.ifCond .eq 7, 3) := by decide +kernel
theorem dX1_adopt_83 : decode cX1_adopt 83 = .ok (.iconst 0, 1) := by decide +kernel
theorem dX1_adopt_84 : decode cX1_adopt 84 = .ok (.goto 4, 3) := by decide +kernel
theorem dX1_adopt_87 : decode cX1_adopt 87 = .ok (.iconst 1, 1) := by decide +kernel
theorem dX1_adopt_88 : decode cX1_adopt 88 = .ok (.putfield 13, 3) := by decide +kernel
theorem dX1_adopt_91 : decode cX1_adopt 91 = .ok (.iload 4, 2) := by decide +kernel
theorem dX1_adopt_93 : decode cX1_adopt 93 = .ok (.ifCond .eq 42, 3) := by decide +kernel
theorem dX1_adopt_96 : decode cX1_adopt 96 = .ok (.aload_n 0, 1) := by decide +kernel
theorem dX1_adopt_97 : decode cX1_adopt 97 = .ok (.iload_n 1, 1) := by decide +kernel
theorem dX1_adopt_98 : decode cX1_adopt 98 = .ok (.putfield 73, 3) := by decide +kernel
theorem dX1_adopt_101 : decode cX1_adopt 101 = .ok (.aload_n 0, 1) := by decide +kernel
theorem dX1_adopt_102 : decode cX1_adopt 102 = .ok (.iload_n 2, 1) := by decide +kernel
theorem dX1_adopt_103 : decode cX1_adopt 103 = .ok (.putfield 76, 3) := by decide +kernel
theorem dX1_adopt_106 : decode cX1_adopt 106 = .ok (.aload_n 0, 1) := by decide +kernel
theorem dX1_adopt_107 : decode cX1_adopt 107 = .ok (.iload_n 3, 1) := by decide +kernel
theorem dX1_adopt_108 : decode cX1_adopt 108 = .ok (.putfield 79, 3) := by decide +kernel
theorem dX1_adopt_111 : decode cX1_adopt 111 = .ok (.iconst 0, 1) := by decide +kernel
theorem dX1_adopt_112 : decode cX1_adopt 112 = .ok (.istore 5, 2) := by decide +kernel
theorem dX1_adopt_114 : decode cX1_adopt 114 = .ok (.iload 5, 2) := by decide +kernel
theorem dX1_adopt_116 : decode cX1_adopt 116 = .ok (.bipush 8, 2) := by decide +kernel
theorem dX1_adopt_118 : decode cX1_adopt 118 = .ok (.if_icmp .ge 17, 3) := by decide +kernel
theorem dX1_adopt_121 : decode cX1_adopt 121 = .ok (.aload_n 0, 1) := by decide +kernel
theorem dX1_adopt_122 : decode cX1_adopt 122 = .ok (.getfield 7, 3) := by decide +kernel
theorem dX1_adopt_125 : decode cX1_adopt 125 = .ok (.iload 5, 2) := by decide +kernel
theorem dX1_adopt_127 : decode cX1_adopt 127 = .ok (.iconst 0, 1) := by decide +kernel
theorem dX1_adopt_128 : decode cX1_adopt 128 = .ok (.iastore, 1) := by decide +kernel
theorem dX1_adopt_129 : decode cX1_adopt 129 = .ok (.iinc 5 1, 3) := by decide +kernel
theorem dX1_adopt_132 : decode cX1_adopt 132 = .ok (.goto (-18), 3) := by decide +kernel
theorem dX1_adopt_135 : decode cX1_adopt 135 = .ok (.return_, 1) := by decide +kernel
theorem dX1_domain_0 : decode cX1_domain 0 = .ok (.aload_n 0, 1) := by decide +kernel
theorem dX1_domain_1 : decode cX1_domain 1 = .ok (.iconst 0, 1) := by decide +kernel
theorem dX1_domain_2 : decode cX1_domain 2 = .ok (.putfield 13, 3) := by decide +kernel
theorem dX1_domain_5 : decode cX1_domain 5 = .ok (.iload_n 1, 1) := by decide +kernel
theorem dX1_domain_6 : decode cX1_domain 6 = .ok (.ifCond .ne 10, 3) := by decide +kernel
theorem dX1_domain_9 : decode cX1_domain 9 = .ok (.aload_n 0, 1) := by decide +kernel
theorem dX1_domain_10 : decode cX1_domain 10 = .ok (.getfield 73, 3) := by decide +kernel
theorem dX1_domain_13 : decode cX1_domain 13 = .ok (.goto 28, 3) := by decide +kernel
theorem dX1_domain_16 : decode cX1_domain 16 = .ok (.iload_n 1, 1) := by decide +kernel
theorem dX1_domain_17 : decode cX1_domain 17 = .ok (.iconst 1, 1) := by decide +kernel
theorem dX1_domain_18 : decode cX1_domain 18 = .ok (.if_icmp .ne 10, 3) := by decide +kernel
theorem dX1_domain_21 : decode cX1_domain 21 = .ok (.aload_n 0, 1) := by decide +kernel
theorem dX1_domain_22 : decode cX1_domain 22 = .ok (.getfield 76, 3) := by decide +kernel
theorem dX1_domain_25 : decode cX1_domain 25 = .ok (.goto 16, 3) := by decide +kernel
theorem dX1_domain_28 : decode cX1_domain 28 = .ok (.iload_n 1, 1) := by decide +kernel
theorem dX1_domain_29 : decode cX1_domain 29 = .ok (.iconst 2, 1) := by decide +kernel
theorem dX1_domain_30 : decode cX1_domain 30 = .ok (.if_icmp .ne 10, 3) := by decide +kernel
theorem dX1_domain_33 : decode cX1_domain 33 = .ok (.aload_n 0, 1) := by decide +kernel
theorem dX1_domain_34 : decode cX1_domain 34 = .ok (.getfield 79, 3) := by decide +kernel
theorem dX1_domain_37 : decode cX1_domain 37 = .ok (.goto 4, 3) := by decide +kernel
theorem dX1_domain_40 : decode cX1_domain 40 = .ok (.iconst 0, 1) := by decide +kernel
theorem dX1_domain_41 : decode cX1_domain 41 = .ok (.ireturn, 1) := by decide +kernel
theorem dX1_hasKey_0 : decode cX1_hasKey 0 = .ok (.iload_n 1, 1) := by decide +kernel
theorem dX1_hasKey_1 : decode cX1_hasKey 1 = .ok (.ifCond .lt 22, 3) := by decide +kernel
theorem dX1_hasKey_4 : decode cX1_hasKey 4 = .ok (.iload_n 1, 1) := by decide +kernel
theorem dX1_hasKey_5 : decode cX1_hasKey 5 = .ok (.bipush 7, 2) := by decide +kernel
theorem dX1_hasKey_7 : decode cX1_hasKey 7 = .ok (.if_icmp .gt 16, 3) := by decide +kernel
theorem dX1_hasKey_10 : decode cX1_hasKey 10 = .ok (.aload_n 0, 1) := by decide +kernel
theorem dX1_hasKey_11 : decode cX1_hasKey 11 = .ok (.getfield 7, 3) := by decide +kernel
theorem dX1_hasKey_14 : decode cX1_hasKey 14 = .ok (.iload_n 1, 1) := by decide +kernel
theorem dX1_hasKey_15 : decode cX1_hasKey 15 = .ok (.iaload, 1) := by decide +kernel
theorem dX1_hasKey_16 : decode cX1_hasKey 16 = .ok (.ifCond .le 7, 3) := by decide +kernel
theorem dX1_hasKey_19 : decode cX1_hasKey 19 = .ok (.iconst 1, 1) := by decide +kernel
theorem dX1_hasKey_20 : decode cX1_hasKey 20 = .ok (.goto 4, 3) := by decide +kernel
theorem dX1_hasKey_23 : decode cX1_hasKey 23 = .ok (.iconst 0, 1) := by decide +kernel
theorem dX1_hasKey_24 : decode cX1_hasKey 24 = .ok (.ireturn, 1) := by decide +kernel
set_option maxRecDepth 20000 in
theorem ggX1_key_X1_power : GoodIn wsX1_key wsX1_power := goodIn_r _ [9] (by decide +kernel) (by decide +kernel)
set_option maxRecDepth 20000 in
theorem gX1_key_X1_power : GoodIn wsX1_key (va_wsS RX1 69 yX1_power wsX1_power) := goodIn_app (goodIn_of _ (by decide +kernel)) ggX1_key_X1_power
theorem dX1_key_0 : decode cX1_key 0 = .ok (.aload_n 0, 1) := by decide +kernel
theorem dX1_key_1 : decode cX1_key 1 = .ok (.aload_n 0, 1) := by decide +kernel
theorem dX1_key_2 : decode cX1_key 2 = .ok (.getfield 73, 3) := by decide +kernel
theorem dX1_key_5 : decode cX1_key 5 = .ok (.ifCond .ne 7, 3) := by decide +kernel
theorem dX1_key_8 : decode cX1_key 8 = .ok (.iconst 1, 1) := by decide +kernel
theorem dX1_key_9 : decode cX1_key 9 = .ok (.goto 37, 3) := by decide +kernel
theorem dX1_key_12 : decode cX1_key 12 = .ok (.iload_n 1, 1) := by decide +kernel
theorem dX1_key_13 : decode cX1_key 13 = .ok (.ifCond .lt 9, 3) := by decide +kernel
theorem dX1_key_16 : decode cX1_key 16 = .ok (.iload_n 1, 1) := by decide +kernel
theorem dX1_key_17 : decode cX1_key 17 = .ok (.bipush 7, 2) := by decide +kernel
theorem dX1_key_19 : decode cX1_key 19 = .ok (.if_icmp .le 7, 3) := by decide +kernel
theorem dX1_key_22 : decode cX1_key 22 = .ok (.iconst 2, 1) := by decide +kernel
theorem dX1_key_23 : decode cX1_key 23 = .ok (.goto 23, 3) := by decide +kernel
theorem dX1_key_26 : decode cX1_key 26 = .ok (.iload_n 2, 1) := by decide +kernel
theorem dX1_key_27 : decode cX1_key 27 = .ok (.iconst 1, 1) := by decide +kernel
theorem dX1_key_28 : decode cX1_key 28 = .ok (.if_icmp .lt 13, 3) := by decide +kernel
theorem dX1_key_31 : decode cX1_key 31 = .ok (.iload_n 2, 1) := by decide +kernel
theorem dX1_key_32 : decode cX1_key 32 = .ok (.aload_n 0, 1) := by decide +kernel
theorem dX1_key_33 : decode cX1_key 33 = .ok (.getfield 76, 3) := by decide +kernel
theorem dX1_key_36 : decode cX1_key 36 = .ok (.iconst 1, 1) := by decide +kernel
theorem dX1_key_37 : decode cX1_key 37 = .ok (.isub, 1) := by decide +kernel
theorem dX1_key_38 : decode cX1_key 38 = .ok (.if_icmp .le 7, 3) := by decide +kernel
theorem dX1_key_41 : decode cX1_key 41 = .ok (.iconst 3, 1) := by decide +kernel
theorem dX1_key_42 : decode cX1_key 42 = .ok (.goto 4, 3) := by decide +kernel
theorem dX1_key_45 : decode cX1_key 45 = .ok (.iconst 0, 1) := by decide +kernel
theorem dX1_key_46 : decode cX1_key 46 = .ok (.putfield 13, 3) := by decide +kernel
theorem dX1_key_49 : decode cX1_key 49 = .ok (.aload_n 0, 1) := by decide +kernel
theorem dX1_key_50 : decode cX1_key 50 = .ok (.getfield 13, 3) := by decide +kernel
theorem dX1_key_53 : decode cX1_key 53 = .ok (.ifCond .eq 5, 3) := by decide +kernel
theorem dX1_key_56 : decode cX1_key 56 = .ok (.iconst 0, 1) := by decide +kernel
theorem dX1_key_57 : decode cX1_key 57 = .ok (.ireturn, 1) := by decide +kernel
theorem dX1_key_58 : decode cX1_key 58 = .ok (.aload_n 0, 1) := by decide +kernel
theorem dX1_key_59 : decode cX1_key 59 = .ok (.getfield 7, 3) := by decide +kernel
theorem dX1_key_62 : decode cX1_key 62 = .ok (.iload_n 1, 1) := by decide +kernel
theorem dX1_key_63 : decode cX1_key 63 = .ok (.iload_n 2, 1) := by decide +kernel
theorem dX1_key_64 : decode cX1_key 64 = .ok (.iastore, 1) := by decide +kernel
theorem dX1_key_65 : decode cX1_key 65 = .ok (.aload_n 0, 1) := by decide +kernel
theorem dX1_key_66 : decode cX1_key 66 = .ok (.getfield 79, 3) := by decide +kernel
theorem dX1_key_69 : decode cX1_key 69 = .ok (.i2l, 1) := by decide +kernel
theorem dX1_key_70 : decode cX1_key 70 = .ok (.iload_n 2, 1) := by decide +kernel
theorem dX1_key_71 : decode cX1_key 71 = .ok (.i2l, 1) := by decide +kernel
theorem dX1_key_72 : decode cX1_key 72 = .ok (.aload_n 0, 1) := by decide +kernel
theorem dX1_key_73 : decode cX1_key 73 = .ok (.getfield 73, 3) := by decide +kernel
theorem dX1_key_76 : decode cX1_key 76 = .ok (.i2l, 1) := by decide +kernel
theorem dX1_key_77 : decode cX1_key 77 = .ok (.invokestatic 69, 3) := by decide +kernel
theorem dX1_key_80 : decode cX1_key 80 = .ok (.l2i, 1) := by decide +kernel
theorem dX1_key_81 : decode cX1_key 81 = .ok (.ireturn, 1) := by decide +kernel
set_option maxRecDepth 20000 in
theorem ggX1_publicNumber_X1_hasKey : GoodIn wsX1_publicNumber wsX1_hasKey := goodIn_r _ [9, 3, 13, 14, 15, 16, 17, 18, 19, 20, 21, 22, 23, 24, 25] (by decide +kernel) (by decide +kernel)
set_option maxRecDepth 20000 in
theorem gX1_publicNumber_X1_hasKey : GoodIn wsX1_publicNumber (wsV RX1 82 RX1 yX1_hasKey wsX1_hasKey) := goodIn_app (goodIn_of _ (by decide +kernel)) ggX1_publicNumber_X1_hasKey
set_option maxRecDepth 20000 in
theorem ggX1_publicNumber_X1_power : GoodIn wsX1_publicNumber wsX1_power := goodIn_r _ [12] (by decide +kernel) (by decide +kernel)
set_option maxRecDepth 20000 in
theorem gX1_publicNumber_X1_power : GoodIn wsX1_publicNumber (va_wsS RX1 69 yX1_power wsX1_power) := goodIn_app (goodIn_of _ (by decide +kernel)) ggX1_publicNumber_X1_power
theorem dX1_publicNumber_0 : decode cX1_publicNumber 0 = .ok (.aload_n 0, 1) := by decide +kernel
theorem dX1_publicNumber_1 : decode cX1_publicNumber 1 = .ok (.aload_n 0, 1) := by decide +kernel
theorem dX1_publicNumber_2 : decode cX1_publicNumber 2 = .ok (.iload_n 1, 1) := by decide +kernel
theorem dX1_publicNumber_3 : decode cX1_publicNumber 3 = .ok (.invokevirtual 82, 3) := by decide +kernel
theorem dX1_publicNumber_6 : decode cX1_publicNumber 6 = .ok (.ifCond .eq 7, 3) := by decide +kernel
theorem dX1_publicNumber_9 : decode cX1_publicNumber 9 = .ok (.iconst 0, 1) := by decide +kernel
theorem dX1_publicNumber_10 : decode cX1_publicNumber 10 = .ok (.goto 4, 3) := by decide +kernel
theorem dX1_publicNumber_13 : decode cX1_publicNumber 13 = .ok (.iconst 1, 1) := by decide +kernel
theorem dX1_publicNumber_14 : decode cX1_publicNumber 14 = .ok (.putfield 13, 3) := by decide +kernel
theorem dX1_publicNumber_17 : decode cX1_publicNumber 17 = .ok (.aload_n 0, 1) := by decide +kernel
theorem dX1_publicNumber_18 : decode cX1_publicNumber 18 = .ok (.getfield 13, 3) := by decide +kernel
theorem dX1_publicNumber_21 : decode cX1_publicNumber 21 = .ok (.ifCond .ne 27, 3) := by decide +kernel
theorem dX1_publicNumber_24 : decode cX1_publicNumber 24 = .ok (.aload_n 0, 1) := by decide +kernel
theorem dX1_publicNumber_25 : decode cX1_publicNumber 25 = .ok (.getfield 79, 3) := by decide +kernel
theorem dX1_publicNumber_28 : decode cX1_publicNumber 28 = .ok (.i2l, 1) := by decide +kernel
theorem dX1_publicNumber_29 : decode cX1_publicNumber 29 = .ok (.aload_n 0, 1) := by decide +kernel
theorem dX1_publicNumber_30 : decode cX1_publicNumber 30 = .ok (.getfield 7, 3) := by decide +kernel
theorem dX1_publicNumber_33 : decode cX1_publicNumber 33 = .ok (.iload_n 1, 1) := by decide +kernel
theorem dX1_publicNumber_34 : decode cX1_publicNumber 34 = .ok (.iaload, 1) := by decide +kernel
theorem dX1_publicNumber_35 : decode cX1_publicNumber 35 = .ok (.i2l, 1) := by decide +kernel
theorem dX1_publicNumber_36 : decode cX1_publicNumber 36 = .ok (.aload_n 0, 1) := by decide +kernel
theorem dX1_publicNumber_37 : decode cX1_publicNumber 37 = .ok (.getfield 73, 3) := by decide +kernel
theorem dX1_publicNumber_40 : decode cX1_publicNumber 40 = .ok (.i2l, 1) := by decide +kernel
theorem dX1_publicNumber_41 : decode cX1_publicNumber 41 = .ok (.invokestatic 69, 3) := by decide +kernel
theorem dX1_publicNumber_44 : decode cX1_publicNumber 44 = .ok (.l2i, 1) := by decide +kernel
theorem dX1_publicNumber_45 : decode cX1_publicNumber 45 = .ok (.goto 4, 3) := by decide +kernel
theorem dX1_publicNumber_48 : decode cX1_publicNumber 48 = .ok (.iconst 0, 1) := by decide +kernel
theorem dX1_publicNumber_49 : decode cX1_publicNumber 49 = .ok (.ireturn, 1) := by decide +kernel
set_option maxRecDepth 20000 in
theorem ggX1_forget_X1_hasKey : GoodIn wsX1_forget wsX1_hasKey := goodIn_r _ [7, 2, 8, 9, 10, 11, 12, 13, 14, 15, 16, 17, 18, 19, 20] (by decide +kernel) (by decide +kernel)
set_option maxRecDepth 20000 in
theorem gX1_forget_X1_hasKey : GoodIn wsX1_forget (wsV RX1 82 RX1 yX1_hasKey wsX1_hasKey) := goodIn_app (goodIn_of _ (by decide +kernel)) ggX1_forget_X1_hasKey
theorem dX1_forget_0 : decode cX1_forget 0 = .ok (.aload_n 0, 1) := by decide +kernel
theorem dX1_forget_1 : decode cX1_forget 1 = .ok (.aload_n 0, 1) := by decide +kernel
theorem dX1_forget_2 : decode cX1_forget 2 = .ok (.iload_n 1, 1) := by decide +kernel
theorem dX1_forget_3 : decode cX1_forget 3 = .ok (.invokevirtual 82, 3) := by decide +kernel
theorem dX1_forget_6 : decode cX1_forget 6 = .ok (.ifCond .eq 7, 3) := by decide +kernel
theorem dX1_forget_9 : decode cX1_forget 9 = .ok (.iconst 0, 1) := by decide +kernel
theorem dX1_forget_10 : decode cX1_forget 10 = .ok (.goto 4, 3) := by decide +kernel
theorem dX1_forget_13 : decode cX1_forget 13 = .ok (.iconst 1, 1) := by decide +kernel
theorem dX1_forget_14 : decode cX1_forget 14 = .ok (.putfield 13, 3) := by decide +kernel
theorem dX1_forget_17 : decode cX1_forget 17 = .ok (.aload_n 0, 1) := by decide +kernel
theorem dX1_forget_18 : decode cX1_forget 18 = .ok (.getfield 13, 3) := by decide +kernel
theorem dX1_forget_21 : decode cX1_forget 21 = .ok (.ifCond .ne 10, 3) := by decide +kernel
theorem dX1_forget_24 : decode cX1_forget 24 = .ok (.aload_n 0, 1) := by decide +kernel
theorem dX1_forget_25 : decode cX1_forget 25 = .ok (.getfield 7, 3) := by decide +kernel
theorem dX1_forget_28 : decode cX1_forget 28 = .ok (.iload_n 1, 1) := by decide +kernel
theorem dX1_forget_29 : decode cX1_forget 29 = .ok (.iconst 0, 1) := by decide +kernel
theorem dX1_forget_30 : decode cX1_forget 30 = .ok (.iastore, 1) := by decide +kernel
theorem dX1_forget_31 : decode cX1_forget 31 = .ok (.return_, 1) := by decide +kernel
set_option maxRecDepth 20000 in
theorem ggX1_fits_X1_power : GoodIn wsX1_fits wsX1_power := goodIn_r _ [7] (by decide +kernel) (by decide +kernel)
set_option maxRecDepth 20000 in
theorem gX1_fits_X1_power : GoodIn wsX1_fits (va_wsS RX1 69 yX1_power wsX1_power) := goodIn_app (goodIn_of _ (by decide +kernel)) ggX1_fits_X1_power
theorem dX1_fits_0 : decode cX1_fits 0 = .ok (.aload_n 0, 1) := by decide +kernel
theorem dX1_fits_1 : decode cX1_fits 1 = .ok (.aload_n 0, 1) := by decide +kernel
theorem dX1_fits_2 : decode cX1_fits 2 = .ok (.getfield 73, 3) := by decide +kernel
theorem dX1_fits_5 : decode cX1_fits 5 = .ok (.ifCond .ne 7, 3) := by decide +kernel
theorem dX1_fits_8 : decode cX1_fits 8 = .ok (.iconst 1, 1) := by decide +kernel
theorem dX1_fits_9 : decode cX1_fits 9 = .ok (.goto 4, 3) := by decide +kernel
theorem dX1_fits_12 : decode cX1_fits 12 = .ok (.iconst 0, 1) := by decide +kernel
theorem dX1_fits_13 : decode cX1_fits 13 = .ok (.putfield 13, 3) := by decide +kernel
theorem dX1_fits_16 : decode cX1_fits 16 = .ok (.aload_n 0, 1) := by decide +kernel
theorem dX1_fits_17 : decode cX1_fits 17 = .ok (.getfield 13, 3) := by decide +kernel
theorem dX1_fits_20 : decode cX1_fits 20 = .ok (.ifCond .ne 42, 3) := by decide +kernel
theorem dX1_fits_23 : decode cX1_fits 23 = .ok (.iload_n 1, 1) := by decide +kernel
theorem dX1_fits_24 : decode cX1_fits 24 = .ok (.iconst 2, 1) := by decide +kernel
theorem dX1_fits_25 : decode cX1_fits 25 = .ok (.if_icmp .lt 37, 3) := by decide +kernel
theorem dX1_fits_28 : decode cX1_fits 28 = .ok (.iload_n 1, 1) := by decide +kernel
theorem dX1_fits_29 : decode cX1_fits 29 = .ok (.aload_n 0, 1) := by decide +kernel
theorem dX1_fits_30 : decode cX1_fits 30 = .ok (.getfield 73, 3) := by decide +kernel
theorem dX1_fits_33 : decode cX1_fits 33 = .ok (.iconst 2, 1) := by decide +kernel
theorem dX1_fits_34 : decode cX1_fits 34 = .ok (.isub, 1) := by decide +kernel
theorem dX1_fits_35 : decode cX1_fits 35 = .ok (.if_icmp .gt 27, 3) := by decide +kernel
theorem dX1_fits_38 : decode cX1_fits 38 = .ok (.iload_n 1, 1) := by decide +kernel
theorem dX1_fits_39 : decode cX1_fits 39 = .ok (.i2l, 1) := by decide +kernel
theorem dX1_fits_40 : decode cX1_fits 40 = .ok (.aload_n 0, 1) := by decide +kernel
theorem dX1_fits_41 : decode cX1_fits 41 = .ok (.getfield 76, 3) := by decide +kernel
theorem dX1_fits_44 : decode cX1_fits 44 = .ok (.i2l, 1) := by decide +kernel
theorem dX1_fits_45 : decode cX1_fits 45 = .ok (.aload_n 0, 1) := by decide +kernel
theorem dX1_fits_46 : decode cX1_fits 46 = .ok (.getfield 73, 3) := by decide +kernel
theorem dX1_fits_49 : decode cX1_fits 49 = .ok (.i2l, 1) := by decide +kernel
theorem dX1_fits_50 : decode cX1_fits 50 = .ok (.invokestatic 69, 3) := by decide +kernel
theorem dX1_fits_53 : decode cX1_fits 53 = .ok (.lconst 1, 1) := by decide +kernel
theorem dX1_fits_54 : decode cX1_fits 54 = .ok (.lcmp, 1) := by decide +kernel
theorem dX1_fits_55 : decode cX1_fits 55 = .ok (.ifCond .ne 7, 3) := by decide +kernel
theorem dX1_fits_58 : decode cX1_fits 58 = .ok (.iconst 1, 1) := by decide +kernel
theorem dX1_fits_59 : decode cX1_fits 59 = .ok (.goto 4, 3) := by decide +kernel
theorem dX1_fits_62 : decode cX1_fits 62 = .ok (.iconst 0, 1) := by decide +kernel
theorem dX1_fits_63 : decode cX1_fits 63 = .ok (.ireturn, 1) := by decide +kernel
set_option maxRecDepth 20000 in
theorem ggX1_digestOf_X1_h : GoodIn wsX1_digestOf wsX1_h := goodIn_r _ [5, 6, 7, 8] (by decide +kernel) (by decide +kernel)
set_option maxRecDepth 20000 in
theorem gX1_digestOf_X1_h : GoodIn wsX1_digestOf (va_wsS RX1 27 yX1_h wsX1_h) := goodIn_app (goodIn_of _ (by decide +kernel)) ggX1_digestOf_X1_h
theorem dX1_digestOf_0 : decode cX1_digestOf 0 = .ok (.lload_n 0, 1) := by decide +kernel
theorem dX1_digestOf_1 : decode cX1_digestOf 1 = .ok (.ldc2_w 23, 3) := by decide +kernel
theorem dX1_digestOf_4 : decode cX1_digestOf 4 = .ok (.invokestatic 27, 3) := by decide +kernel
theorem dX1_digestOf_7 : decode cX1_digestOf 7 = .ok (.bipush 49, 2) := by decide +kernel
theorem dX1_digestOf_9 : decode cX1_digestOf 9 = .ok (.lushr, 1) := by decide +kernel
theorem dX1_digestOf_10 : decode cX1_digestOf 10 = .ok (.lreturn, 1) := by decide +kernel
set_option maxRecDepth 20000 in
theorem ggX1_digest_X1_digestOf : GoodIn wsX1_digest wsX1_digestOf := goodIn_r _ [5, 6, 7, 8, 4, 9, 10, 11, 12] (by decide +kernel) (by decide +kernel)
set_option maxRecDepth 20000 in
theorem gX1_digest_X1_digestOf : GoodIn wsX1_digest (va_wsS RX1 85 yX1_digestOf wsX1_digestOf) := goodIn_app (goodIn_of _ (by decide +kernel)) ggX1_digest_X1_digestOf
theorem dX1_digest_0 : decode cX1_digest 0 = .ok (.aload_n 0, 1) := by decide +kernel
theorem dX1_digest_1 : decode cX1_digest 1 = .ok (.iconst 0, 1) := by decide +kernel
theorem dX1_digest_2 : decode cX1_digest 2 = .ok (.putfield 13, 3) := by decide +kernel
theorem dX1_digest_5 : decode cX1_digest 5 = .ok (.lload_n 1, 1) := by decide +kernel
theorem dX1_digest_6 : decode cX1_digest 6 = .ok (.invokestatic 85, 3) := by decide +kernel
theorem dX1_digest_9 : decode cX1_digest 9 = .ok (.l2i, 1) := by decide +kernel
theorem dX1_digest_10 : decode cX1_digest 10 = .ok (.ireturn, 1) := by decide +kernel
set_option maxRecDepth 20000 in
theorem ggX1_sign_X1_hasKey : GoodIn wsX1_sign wsX1_hasKey := goodIn_r _ [11, 5, 25, 26, 27, 28, 29, 30, 31, 32, 33, 34, 35, 36, 37] (by decide +kernel) (by decide +kernel)
set_option maxRecDepth 20000 in
theorem gX1_sign_X1_hasKey : GoodIn wsX1_sign (wsV RX1 82 RX1 yX1_hasKey wsX1_hasKey) := goodIn_app (goodIn_of _ (by decide +kernel)) ggX1_sign_X1_hasKey
set_option maxRecDepth 20000 in
theorem ggX1_sign_X1_power : GoodIn wsX1_sign wsX1_power := goodIn_r _ [14] (by decide +kernel) (by decide +kernel)
set_option maxRecDepth 20000 in
theorem gX1_sign_X1_power : GoodIn wsX1_sign (va_wsS RX1 69 yX1_power wsX1_power) := goodIn_app (goodIn_of _ (by decide +kernel)) ggX1_sign_X1_power
set_option maxRecDepth 20000 in
theorem ggX1_sign_X1_digestOf : GoodIn wsX1_sign wsX1_digestOf := goodIn_r _ [17, 18, 19, 20, 10, 21, 22, 23, 24] (by decide +kernel) (by decide +kernel)
set_option maxRecDepth 20000 in
theorem gX1_sign_X1_digestOf : GoodIn wsX1_sign (va_wsS RX1 85 yX1_digestOf wsX1_digestOf) := goodIn_app (goodIn_of _ (by decide +kernel)) ggX1_sign_X1_digestOf
theorem dX1_sign_0 : decode cX1_sign 0 = .ok (.aload_n 0, 1) := by decide +kernel
theorem dX1_sign_1 : decode cX1_sign 1 = .ok (.aload_n 0, 1) := by decide +kernel
theorem dX1_sign_2 : decode cX1_sign 2 = .ok (.iload_n 1, 1) := by decide +kernel
theorem dX1_sign_3 : decode cX1_sign 3 = .ok (.invokevirtual 82, 3) := by decide +kernel
theorem dX1_sign_6 : decode cX1_sign 6 = .ok (.ifCond .ne 7, 3) := by decide +kernel
theorem dX1_sign_9 : decode cX1_sign 9 = .ok (.iconst 1, 1) := by decide +kernel
theorem dX1_sign_10 : decode cX1_sign 10 = .ok (.goto 25, 3) := by decide +kernel
theorem dX1_sign_13 : decode cX1_sign 13 = .ok (.iload 4, 2) := by decide +kernel
theorem dX1_sign_15 : decode cX1_sign 15 = .ok (.iconst 1, 1) := by decide +kernel
theorem dX1_sign_16 : decode cX1_sign 16 = .ok (.if_icmp .lt 14, 3) := by decide +kernel
theorem dX1_sign_19 : decode cX1_sign 19 = .ok (.iload 4, 2) := by decide +kernel
theorem dX1_sign_21 : decode cX1_sign 21 = .ok (.aload_n 0, 1) := by decide +kernel
theorem dX1_sign_22 : decode cX1_sign 22 = .ok (.getfield 76, 3) := by decide +kernel
theorem dX1_sign_25 : decode cX1_sign 25 = .ok (.iconst 1, 1) := by decide +kernel
theorem dX1_sign_26 : decode cX1_sign 26 = .ok (.isub, 1) := by decide +kernel
theorem dX1_sign_27 : decode cX1_sign 27 = .ok (.if_icmp .le 7, 3) := by decide +kernel
theorem dX1_sign_30 : decode cX1_sign 30 = .ok (.iconst 2, 1) := by decide +kernel
theorem dX1_sign_31 : decode cX1_sign 31 = .ok (.goto 4, 3) := by decide +kernel
theorem dX1_sign_34 : decode cX1_sign 34 = .ok (.iconst 0, 1) := by decide +kernel
theorem dX1_sign_35 : decode cX1_sign 35 = .ok (.putfield 13, 3) := by decide +kernel
theorem dX1_sign_38 : decode cX1_sign 38 = .ok (.aload_n 0, 1) := by decide +kernel
theorem dX1_sign_39 : decode cX1_sign 39 = .ok (.getfield 13, 3) := by decide +kernel
theorem dX1_sign_42 : decode cX1_sign 42 = .ok (.ifCond .eq 5, 3) := by decide +kernel
theorem dX1_sign_45 : decode cX1_sign 45 = .ok (.lconst 0, 1) := by decide +kernel
theorem dX1_sign_46 : decode cX1_sign 46 = .ok (.lreturn, 1) := by decide +kernel
theorem dX1_sign_47 : decode cX1_sign 47 = .ok (.aload_n 0, 1) := by decide +kernel
theorem dX1_sign_48 : decode cX1_sign 48 = .ok (.getfield 79, 3) := by decide +kernel
theorem dX1_sign_51 : decode cX1_sign 51 = .ok (.i2l, 1) := by decide +kernel
theorem dX1_sign_52 : decode cX1_sign 52 = .ok (.iload 4, 2) := by decide +kernel
theorem dX1_sign_54 : decode cX1_sign 54 = .ok (.i2l, 1) := by decide +kernel
theorem dX1_sign_55 : decode cX1_sign 55 = .ok (.aload_n 0, 1) := by decide +kernel
theorem dX1_sign_56 : decode cX1_sign 56 = .ok (.getfield 73, 3) := by decide +kernel
theorem dX1_sign_59 : decode cX1_sign 59 = .ok (.i2l, 1) := by decide +kernel
theorem dX1_sign_60 : decode cX1_sign 60 = .ok (.invokestatic 69, 3) := by decide +kernel
theorem dX1_sign_63 : decode cX1_sign 63 = .ok (.aload_n 0, 1) := by decide +kernel
theorem dX1_sign_64 : decode cX1_sign 64 = .ok (.getfield 76, 3) := by decide +kernel
theorem dX1_sign_67 : decode cX1_sign 67 = .ok (.i2l, 1) := by decide +kernel
theorem dX1_sign_68 : decode cX1_sign 68 = .ok (.lrem, 1) := by decide +kernel
theorem dX1_sign_69 : decode cX1_sign 69 = .ok (.lstore 5, 2) := by decide +kernel
theorem dX1_sign_71 : decode cX1_sign 71 = .ok (.lload_n 2, 1) := by decide +kernel
theorem dX1_sign_72 : decode cX1_sign 72 = .ok (.invokestatic 85, 3) := by decide +kernel
theorem dX1_sign_75 : decode cX1_sign 75 = .ok (.aload_n 0, 1) := by decide +kernel
theorem dX1_sign_76 : decode cX1_sign 76 = .ok (.getfield 7, 3) := by decide +kernel
theorem dX1_sign_79 : decode cX1_sign 79 = .ok (.iload_n 1, 1) := by decide +kernel
theorem dX1_sign_80 : decode cX1_sign 80 = .ok (.iaload, 1) := by decide +kernel
theorem dX1_sign_81 : decode cX1_sign 81 = .ok (.i2l, 1) := by decide +kernel
theorem dX1_sign_82 : decode cX1_sign 82 = .ok (.lload 5, 2) := by decide +kernel
theorem dX1_sign_84 : decode cX1_sign 84 = .ok (.lmul, 1) := by decide +kernel
theorem dX1_sign_85 : decode cX1_sign 85 = .ok (.ladd, 1) := by decide +kernel
theorem dX1_sign_86 : decode cX1_sign 86 = .ok (.aload_n 0, 1) := by decide +kernel
theorem dX1_sign_87 : decode cX1_sign 87 = .ok (.getfield 76, 3) := by decide +kernel
theorem dX1_sign_90 : decode cX1_sign 90 = .ok (.i2l, 1) := by decide +kernel
theorem dX1_sign_91 : decode cX1_sign 91 = .ok (.lrem, 1) := by decide +kernel
theorem dX1_sign_92 : decode cX1_sign 92 = .ok (.lstore 7, 2) := by decide +kernel
theorem dX1_sign_94 : decode cX1_sign 94 = .ok (.iload 4, 2) := by decide +kernel
theorem dX1_sign_96 : decode cX1_sign 96 = .ok (.i2l, 1) := by decide +kernel
theorem dX1_sign_97 : decode cX1_sign 97 = .ok (.aload_n 0, 1) := by decide +kernel
theorem dX1_sign_98 : decode cX1_sign 98 = .ok (.getfield 76, 3) := by decide +kernel
theorem dX1_sign_101 : decode cX1_sign 101 = .ok (.iconst 2, 1) := by decide +kernel
theorem dX1_sign_102 : decode cX1_sign 102 = .ok (.isub, 1) := by decide +kernel
theorem dX1_sign_103 : decode cX1_sign 103 = .ok (.i2l, 1) := by decide +kernel
theorem dX1_sign_104 : decode cX1_sign 104 = .ok (.aload_n 0, 1) := by decide +kernel
theorem dX1_sign_105 : decode cX1_sign 105 = .ok (.getfield 76, 3) := by decide +kernel
theorem dX1_sign_108 : decode cX1_sign 108 = .ok (.i2l, 1) := by decide +kernel
theorem dX1_sign_109 : decode cX1_sign 109 = .ok (.invokestatic 69, 3) := by decide +kernel
theorem dX1_sign_112 : decode cX1_sign 112 = .ok (.lload 7, 2) := by decide +kernel
theorem dX1_sign_114 : decode cX1_sign 114 = .ok (.lmul, 1) := by decide +kernel
theorem dX1_sign_115 : decode cX1_sign 115 = .ok (.aload_n 0, 1) := by decide +kernel
theorem dX1_sign_116 : decode cX1_sign 116 = .ok (.getfield 76, 3) := by decide +kernel
theorem dX1_sign_119 : decode cX1_sign 119 = .ok (.i2l, 1) := by decide +kernel
theorem dX1_sign_120 : decode cX1_sign 120 = .ok (.lrem, 1) := by decide +kernel
theorem dX1_sign_121 : decode cX1_sign 121 = .ok (.lstore 9, 2) := by decide +kernel
theorem dX1_sign_123 : decode cX1_sign 123 = .ok (.aload_n 0, 1) := by decide +kernel
theorem dX1_sign_124 : decode cX1_sign 124 = .ok (.lload 5, 2) := by decide +kernel
theorem dX1_sign_126 : decode cX1_sign 126 = .ok (.lconst 0, 1) := by decide +kernel
theorem dX1_sign_127 : decode cX1_sign 127 = .ok (.lcmp, 1) := by decide +kernel
theorem dX1_sign_128 : decode cX1_sign 128 = .ok (.ifCond .eq 10, 3) := by decide +kernel
theorem dX1_sign_131 : decode cX1_sign 131 = .ok (.lload 9, 2) := by decide +kernel
theorem dX1_sign_133 : decode cX1_sign 133 = .ok (.lconst 0, 1) := by decide +kernel
theorem dX1_sign_134 : decode cX1_sign 134 = .ok (.lcmp, 1) := by decide +kernel
theorem dX1_sign_135 : decode cX1_sign 135 = .ok (.ifCond .ne 7, 3) := by decide +kernel
theorem dX1_sign_138 : decode cX1_sign 138 = .ok (.iconst 3, 1) := by decide +kernel
theorem dX1_sign_139 : decode cX1_sign 139 = .ok (.goto 4, 3) := by decide +kernel
theorem dX1_sign_142 : decode cX1_sign 142 = .ok (.iconst 0, 1) := by decide +kernel
theorem dX1_sign_143 : decode cX1_sign 143 = .ok (.putfield 13, 3) := by decide +kernel
theorem dX1_sign_146 : decode cX1_sign 146 = .ok (.aload_n 0, 1) := by decide +kernel
theorem dX1_sign_147 : decode cX1_sign 147 = .ok (.getfield 13, 3) := by decide +kernel
theorem dX1_sign_150 : decode cX1_sign 150 = .ok (.ifCond .ne 15, 3) := by decide +kernel
theorem dX1_sign_153 : decode cX1_sign 153 = .ok (.lload 5, 2) := by decide +kernel
theorem dX1_sign_155 : decode cX1_sign 155 = .ok (.ldc2_w 89, 3) := by decide +kernel
theorem dX1_sign_158 : decode cX1_sign 158 = .ok (.lmul, 1) := by decide +kernel
theorem dX1_sign_159 : decode cX1_sign 159 = .ok (.lload 9, 2) := by decide +kernel
theorem dX1_sign_161 : decode cX1_sign 161 = .ok (.ladd, 1) := by decide +kernel
theorem dX1_sign_162 : decode cX1_sign 162 = .ok (.goto 4, 3) := by decide +kernel
theorem dX1_sign_165 : decode cX1_sign 165 = .ok (.lconst 0, 1) := by decide +kernel
theorem dX1_sign_166 : decode cX1_sign 166 = .ok (.lreturn, 1) := by decide +kernel
set_option maxRecDepth 20000 in
theorem ggX1_verify_X1_power : GoodIn wsX1_verify wsX1_power := goodIn_r _ [8] (by decide +kernel) (by decide +kernel)
set_option maxRecDepth 20000 in
theorem gX1_verify_X1_power : GoodIn wsX1_verify (va_wsS RX1 69 yX1_power wsX1_power) := goodIn_app (goodIn_of _ (by decide +kernel)) ggX1_verify_X1_power
set_option maxRecDepth 20000 in
theorem ggX1_verify_X1_digestOf : GoodIn wsX1_verify wsX1_digestOf := goodIn_r _ [11, 12, 13, 14, 7, 15, 16, 17, 18] (by decide +kernel) (by decide +kernel)
set_option maxRecDepth 20000 in
theorem gX1_verify_X1_digestOf : GoodIn wsX1_verify (va_wsS RX1 85 yX1_digestOf wsX1_digestOf) := goodIn_app (goodIn_of _ (by decide +kernel)) ggX1_verify_X1_digestOf
theorem dX1_verify_0 : decode cX1_verify 0 = .ok (.aload_n 0, 1) := by decide +kernel
theorem dX1_verify_1 : decode cX1_verify 1 = .ok (.aload_n 0, 1) := by decide +kernel
theorem dX1_verify_2 : decode cX1_verify 2 = .ok (.getfield 73, 3) := by decide +kernel
theorem dX1_verify_5 : decode cX1_verify 5 = .ok (.ifCond .ne 7, 3) := by decide +kernel
theorem dX1_verify_8 : decode cX1_verify 8 = .ok (.iconst 1, 1) := by decide +kernel
theorem dX1_verify_9 : decode cX1_verify 9 = .ok (.goto 4, 3) := by decide +kernel
theorem dX1_verify_12 : decode cX1_verify 12 = .ok (.iconst 0, 1) := by decide +kernel
theorem dX1_verify_13 : decode cX1_verify 13 = .ok (.putfield 13, 3) := by decide +kernel
theorem dX1_verify_16 : decode cX1_verify 16 = .ok (.aload_n 0, 1) := by decide +kernel
theorem dX1_verify_17 : decode cX1_verify 17 = .ok (.getfield 13, 3) := by decide +kernel
theorem dX1_verify_20 : decode cX1_verify 20 = .ok (.ifCond .ne 52, 3) := by decide +kernel
theorem dX1_verify_23 : decode cX1_verify 23 = .ok (.iload_n 1, 1) := by decide +kernel
theorem dX1_verify_24 : decode cX1_verify 24 = .ok (.iconst 1, 1) := by decide +kernel
theorem dX1_verify_25 : decode cX1_verify 25 = .ok (.if_icmp .lt 47, 3) := by decide +kernel
theorem dX1_verify_28 : decode cX1_verify 28 = .ok (.iload_n 1, 1) := by decide +kernel
theorem dX1_verify_29 : decode cX1_verify 29 = .ok (.aload_n 0, 1) := by decide +kernel
theorem dX1_verify_30 : decode cX1_verify 30 = .ok (.getfield 73, 3) := by decide +kernel
theorem dX1_verify_33 : decode cX1_verify 33 = .ok (.iconst 1, 1) := by decide +kernel
theorem dX1_verify_34 : decode cX1_verify 34 = .ok (.isub, 1) := by decide +kernel
theorem dX1_verify_35 : decode cX1_verify 35 = .ok (.if_icmp .gt 37, 3) := by decide +kernel
theorem dX1_verify_38 : decode cX1_verify 38 = .ok (.iload 4, 2) := by decide +kernel
theorem dX1_verify_40 : decode cX1_verify 40 = .ok (.iconst 1, 1) := by decide +kernel
theorem dX1_verify_41 : decode cX1_verify 41 = .ok (.if_icmp .lt 31, 3) := by decide +kernel
theorem dX1_verify_44 : decode cX1_verify 44 = .ok (.iload 4, 2) := by decide +kernel
theorem dX1_verify_46 : decode cX1_verify 46 = .ok (.aload_n 0, 1) := by decide +kernel
theorem dX1_verify_47 : decode cX1_verify 47 = .ok (.getfield 76, 3) := by decide +kernel
theorem dX1_verify_50 : decode cX1_verify 50 = .ok (.iconst 1, 1) := by decide +kernel
theorem dX1_verify_51 : decode cX1_verify 51 = .ok (.isub, 1) := by decide +kernel
theorem dX1_verify_52 : decode cX1_verify 52 = .ok (.if_icmp .gt 20, 3) := by decide +kernel
theorem dX1_verify_55 : decode cX1_verify 55 = .ok (.iload 5, 2) := by decide +kernel
theorem dX1_verify_57 : decode cX1_verify 57 = .ok (.iconst 1, 1) := by decide +kernel
theorem dX1_verify_58 : decode cX1_verify 58 = .ok (.if_icmp .lt 14, 3) := by decide +kernel
theorem dX1_verify_61 : decode cX1_verify 61 = .ok (.iload 5, 2) := by decide +kernel
theorem dX1_verify_63 : decode cX1_verify 63 = .ok (.aload_n 0, 1) := by decide +kernel
theorem dX1_verify_64 : decode cX1_verify 64 = .ok (.getfield 76, 3) := by decide +kernel
theorem dX1_verify_67 : decode cX1_verify 67 = .ok (.iconst 1, 1) := by decide +kernel
theorem dX1_verify_68 : decode cX1_verify 68 = .ok (.isub, 1) := by decide +kernel
theorem dX1_verify_69 : decode cX1_verify 69 = .ok (.if_icmp .le 5, 3) := by decide +kernel
theorem dX1_verify_72 : decode cX1_verify 72 = .ok (.iconst 0, 1) := by decide +kernel
theorem dX1_verify_73 : decode cX1_verify 73 = .ok (.ireturn, 1) := by decide +kernel
theorem dX1_verify_74 : decode cX1_verify 74 = .ok (.iload 5, 2) := by decide +kernel
theorem dX1_verify_76 : decode cX1_verify 76 = .ok (.i2l, 1) := by decide +kernel
theorem dX1_verify_77 : decode cX1_verify 77 = .ok (.aload_n 0, 1) := by decide +kernel
theorem dX1_verify_78 : decode cX1_verify 78 = .ok (.getfield 76, 3) := by decide +kernel
theorem dX1_verify_81 : decode cX1_verify 81 = .ok (.iconst 2, 1) := by decide +kernel
theorem dX1_verify_82 : decode cX1_verify 82 = .ok (.isub, 1) := by decide +kernel
theorem dX1_verify_83 : decode cX1_verify 83 = .ok (.i2l, 1) := by decide +kernel
theorem dX1_verify_84 : decode cX1_verify 84 = .ok (.aload_n 0, 1) := by decide +kernel
theorem dX1_verify_85 : decode cX1_verify 85 = .ok (.getfield 76, 3) := by decide +kernel
theorem dX1_verify_88 : decode cX1_verify 88 = .ok (.i2l, 1) := by decide +kernel
theorem dX1_verify_89 : decode cX1_verify 89 = .ok (.invokestatic 69, 3) := by decide +kernel
theorem dX1_verify_92 : decode cX1_verify 92 = .ok (.lstore 6, 2) := by decide +kernel
theorem dX1_verify_94 : decode cX1_verify 94 = .ok (.lload_n 2, 1) := by decide +kernel
theorem dX1_verify_95 : decode cX1_verify 95 = .ok (.invokestatic 85, 3) := by decide +kernel
theorem dX1_verify_98 : decode cX1_verify 98 = .ok (.lload 6, 2) := by decide +kernel
theorem dX1_verify_100 : decode cX1_verify 100 = .ok (.lmul, 1) := by decide +kernel
theorem dX1_verify_101 : decode cX1_verify 101 = .ok (.aload_n 0, 1) := by decide +kernel
theorem dX1_verify_102 : decode cX1_verify 102 = .ok (.getfield 76, 3) := by decide +kernel
theorem dX1_verify_105 : decode cX1_verify 105 = .ok (.i2l, 1) := by decide +kernel
theorem dX1_verify_106 : decode cX1_verify 106 = .ok (.lrem, 1) := by decide +kernel
theorem dX1_verify_107 : decode cX1_verify 107 = .ok (.lstore 8, 2) := by decide +kernel
theorem dX1_verify_109 : decode cX1_verify 109 = .ok (.iload 4, 2) := by decide +kernel
theorem dX1_verify_111 : decode cX1_verify 111 = .ok (.i2l, 1) := by decide +kernel
theorem dX1_verify_112 : decode cX1_verify 112 = .ok (.lload 6, 2) := by decide +kernel
theorem dX1_verify_114 : decode cX1_verify 114 = .ok (.lmul, 1) := by decide +kernel
theorem dX1_verify_115 : decode cX1_verify 115 = .ok (.aload_n 0, 1) := by decide +kernel
theorem dX1_verify_116 : decode cX1_verify 116 = .ok (.getfield 76, 3) := by decide +kernel
theorem dX1_verify_119 : decode cX1_verify 119 = .ok (.i2l, 1) := by decide +kernel
theorem dX1_verify_120 : decode cX1_verify 120 = .ok (.lrem, 1) := by decide +kernel
theorem dX1_verify_121 : decode cX1_verify 121 = .ok (.lstore 10, 2) := by decide +kernel
theorem dX1_verify_123 : decode cX1_verify 123 = .ok (.aload_n 0, 1) := by decide +kernel
theorem dX1_verify_124 : decode cX1_verify 124 = .ok (.getfield 79, 3) := by decide +kernel
theorem dX1_verify_127 : decode cX1_verify 127 = .ok (.i2l, 1) := by decide +kernel
theorem dX1_verify_128 : decode cX1_verify 128 = .ok (.lload 8, 2) := by decide +kernel
theorem dX1_verify_130 : decode cX1_verify 130 = .ok (.aload_n 0, 1) := by decide +kernel
theorem dX1_verify_131 : decode cX1_verify 131 = .ok (.getfield 73, 3) := by decide +kernel
theorem dX1_verify_134 : decode cX1_verify 134 = .ok (.i2l, 1) := by decide +kernel
theorem dX1_verify_135 : decode cX1_verify 135 = .ok (.invokestatic 69, 3) := by decide +kernel
theorem dX1_verify_138 : decode cX1_verify 138 = .ok (.iload_n 1, 1) := by decide +kernel
theorem dX1_verify_139 : decode cX1_verify 139 = .ok (.i2l, 1) := by decide +kernel
theorem dX1_verify_140 : decode cX1_verify 140 = .ok (.lload 10, 2) := by decide +kernel
theorem dX1_verify_142 : decode cX1_verify 142 = .ok (.aload_n 0, 1) := by decide +kernel
theorem dX1_verify_143 : decode cX1_verify 143 = .ok (.getfield 73, 3) := by decide +kernel
theorem dX1_verify_146 : decode cX1_verify 146 = .ok (.i2l, 1) := by decide +kernel
theorem dX1_verify_147 : decode cX1_verify 147 = .ok (.invokestatic 69, 3) := by decide +kernel
theorem dX1_verify_150 : decode cX1_verify 150 = .ok (.lmul, 1) := by decide +kernel
theorem dX1_verify_151 : decode cX1_verify 151 = .ok (.aload_n 0, 1) := by decide +kernel
theorem dX1_verify_152 : decode cX1_verify 152 = .ok (.getfield 73, 3) := by decide +kernel
theorem dX1_verify_155 : decode cX1_verify 155 = .ok (.i2l, 1) := by decide +kernel
theorem dX1_verify_156 : decode cX1_verify 156 = .ok (.lrem, 1) := by decide +kernel
theorem dX1_verify_157 : decode cX1_verify 157 = .ok (.lstore 12, 2) := by decide +kernel
theorem dX1_verify_159 : decode cX1_verify 159 = .ok (.lload 12, 2) := by decide +kernel
theorem dX1_verify_161 : decode cX1_verify 161 = .ok (.aload_n 0, 1) := by decide +kernel
theorem dX1_verify_162 : decode cX1_verify 162 = .ok (.getfield 76, 3) := by decide +kernel
theorem dX1_verify_165 : decode cX1_verify 165 = .ok (.i2l, 1) := by decide +kernel
theorem dX1_verify_166 : decode cX1_verify 166 = .ok (.lrem, 1) := by decide +kernel
theorem dX1_verify_167 : decode cX1_verify 167 = .ok (.iload 4, 2) := by decide +kernel
theorem dX1_verify_169 : decode cX1_verify 169 = .ok (.i2l, 1) := by decide +kernel
theorem dX1_verify_170 : decode cX1_verify 170 = .ok (.lcmp, 1) := by decide +kernel
theorem dX1_verify_171 : decode cX1_verify 171 = .ok (.ifCond .ne 7, 3) := by decide +kernel
theorem dX1_verify_174 : decode cX1_verify 174 = .ok (.iconst 1, 1) := by decide +kernel
theorem dX1_verify_175 : decode cX1_verify 175 = .ok (.goto 4, 3) := by decide +kernel
theorem dX1_verify_178 : decode cX1_verify 178 = .ok (.iconst 0, 1) := by decide +kernel
theorem dX1_verify_179 : decode cX1_verify 179 = .ok (.ireturn, 1) := by decide +kernel
set_option maxRecDepth 20000 in
theorem ggX1_agree_X1_hasKey : GoodIn wsX1_agree wsX1_hasKey := goodIn_r _ [8, 3, 12, 13, 14, 15, 16, 17, 18, 19, 20, 21, 22, 23, 24] (by decide +kernel) (by decide +kernel)
set_option maxRecDepth 20000 in
theorem gX1_agree_X1_hasKey : GoodIn wsX1_agree (wsV RX1 82 RX1 yX1_hasKey wsX1_hasKey) := goodIn_app (goodIn_of _ (by decide +kernel)) ggX1_agree_X1_hasKey
set_option maxRecDepth 20000 in
theorem ggX1_agree_X1_power : GoodIn wsX1_agree wsX1_power := goodIn_r _ [11] (by decide +kernel) (by decide +kernel)
set_option maxRecDepth 20000 in
theorem gX1_agree_X1_power : GoodIn wsX1_agree (va_wsS RX1 69 yX1_power wsX1_power) := goodIn_app (goodIn_of _ (by decide +kernel)) ggX1_agree_X1_power
theorem dX1_agree_0 : decode cX1_agree 0 = .ok (.aload_n 0, 1) := by decide +kernel
theorem dX1_agree_1 : decode cX1_agree 1 = .ok (.aload_n 0, 1) := by decide +kernel
theorem dX1_agree_2 : decode cX1_agree 2 = .ok (.iload_n 1, 1) := by decide +kernel
theorem dX1_agree_3 : decode cX1_agree 3 = .ok (.invokevirtual 82, 3) := by decide +kernel
theorem dX1_agree_6 : decode cX1_agree 6 = .ok (.ifCond .ne 7, 3) := by decide +kernel
theorem dX1_agree_9 : decode cX1_agree 9 = .ok (.iconst 1, 1) := by decide +kernel
theorem dX1_agree_10 : decode cX1_agree 10 = .ok (.goto 23, 3) := by decide +kernel
theorem dX1_agree_13 : decode cX1_agree 13 = .ok (.iload_n 2, 1) := by decide +kernel
theorem dX1_agree_14 : decode cX1_agree 14 = .ok (.iconst 2, 1) := by decide +kernel
theorem dX1_agree_15 : decode cX1_agree 15 = .ok (.if_icmp .lt 13, 3) := by decide +kernel
theorem dX1_agree_18 : decode cX1_agree 18 = .ok (.iload_n 2, 1) := by decide +kernel
theorem dX1_agree_19 : decode cX1_agree 19 = .ok (.aload_n 0, 1) := by decide +kernel
theorem dX1_agree_20 : decode cX1_agree 20 = .ok (.getfield 73, 3) := by decide +kernel
theorem dX1_agree_23 : decode cX1_agree 23 = .ok (.iconst 2, 1) := by decide +kernel
theorem dX1_agree_24 : decode cX1_agree 24 = .ok (.isub, 1) := by decide +kernel
theorem dX1_agree_25 : decode cX1_agree 25 = .ok (.if_icmp .le 7, 3) := by decide +kernel
theorem dX1_agree_28 : decode cX1_agree 28 = .ok (.iconst 2, 1) := by decide +kernel
theorem dX1_agree_29 : decode cX1_agree 29 = .ok (.goto 4, 3) := by decide +kernel
theorem dX1_agree_32 : decode cX1_agree 32 = .ok (.iconst 0, 1) := by decide +kernel
theorem dX1_agree_33 : decode cX1_agree 33 = .ok (.putfield 13, 3) := by decide +kernel
theorem dX1_agree_36 : decode cX1_agree 36 = .ok (.aload_n 0, 1) := by decide +kernel
theorem dX1_agree_37 : decode cX1_agree 37 = .ok (.getfield 13, 3) := by decide +kernel
theorem dX1_agree_40 : decode cX1_agree 40 = .ok (.ifCond .eq 5, 3) := by decide +kernel
theorem dX1_agree_43 : decode cX1_agree 43 = .ok (.iconst 0, 1) := by decide +kernel
theorem dX1_agree_44 : decode cX1_agree 44 = .ok (.ireturn, 1) := by decide +kernel
theorem dX1_agree_45 : decode cX1_agree 45 = .ok (.iload_n 2, 1) := by decide +kernel
theorem dX1_agree_46 : decode cX1_agree 46 = .ok (.i2l, 1) := by decide +kernel
theorem dX1_agree_47 : decode cX1_agree 47 = .ok (.aload_n 0, 1) := by decide +kernel
theorem dX1_agree_48 : decode cX1_agree 48 = .ok (.getfield 7, 3) := by decide +kernel
theorem dX1_agree_51 : decode cX1_agree 51 = .ok (.iload_n 1, 1) := by decide +kernel
theorem dX1_agree_52 : decode cX1_agree 52 = .ok (.iaload, 1) := by decide +kernel
theorem dX1_agree_53 : decode cX1_agree 53 = .ok (.i2l, 1) := by decide +kernel
theorem dX1_agree_54 : decode cX1_agree 54 = .ok (.aload_n 0, 1) := by decide +kernel
theorem dX1_agree_55 : decode cX1_agree 55 = .ok (.getfield 73, 3) := by decide +kernel
theorem dX1_agree_58 : decode cX1_agree 58 = .ok (.i2l, 1) := by decide +kernel
theorem dX1_agree_59 : decode cX1_agree 59 = .ok (.invokestatic 69, 3) := by decide +kernel
theorem dX1_agree_62 : decode cX1_agree 62 = .ok (.lstore_n 3, 1) := by decide +kernel
theorem dX1_agree_63 : decode cX1_agree 63 = .ok (.aload_n 0, 1) := by decide +kernel
theorem dX1_agree_64 : decode cX1_agree 64 = .ok (.lload_n 3, 1) := by decide +kernel
theorem dX1_agree_65 : decode cX1_agree 65 = .ok (.lconst 1, 1) := by decide +kernel
theorem dX1_agree_66 : decode cX1_agree 66 = .ok (.lcmp, 1) := by decide +kernel
theorem dX1_agree_67 : decode cX1_agree 67 = .ok (.ifCond .ne 7, 3) := by decide +kernel
theorem dX1_agree_70 : decode cX1_agree 70 = .ok (.iconst 3, 1) := by decide +kernel
theorem dX1_agree_71 : decode cX1_agree 71 = .ok (.goto 4, 3) := by decide +kernel
theorem dX1_agree_74 : decode cX1_agree 74 = .ok (.iconst 0, 1) := by decide +kernel
theorem dX1_agree_75 : decode cX1_agree 75 = .ok (.putfield 13, 3) := by decide +kernel
theorem dX1_agree_78 : decode cX1_agree 78 = .ok (.aload_n 0, 1) := by decide +kernel
theorem dX1_agree_79 : decode cX1_agree 79 = .ok (.getfield 13, 3) := by decide +kernel
theorem dX1_agree_82 : decode cX1_agree 82 = .ok (.ifCond .ne 8, 3) := by decide +kernel
theorem dX1_agree_85 : decode cX1_agree 85 = .ok (.lload_n 3, 1) := by decide +kernel
theorem dX1_agree_86 : decode cX1_agree 86 = .ok (.l2i, 1) := by decide +kernel
theorem dX1_agree_87 : decode cX1_agree 87 = .ok (.goto 4, 3) := by decide +kernel
theorem dX1_agree_90 : decode cX1_agree 90 = .ok (.iconst 0, 1) := by decide +kernel
theorem dX1_agree_91 : decode cX1_agree 91 = .ok (.ireturn, 1) := by decide +kernel
set_option maxRecDepth 20000 in
theorem ggL_generator_X0_generator : GoodIn wsL_generator wsX0_generator := goodIn_ca (goodIn_ca (goodIn_r _ [7, 8, 9, 10, 11, 12, 13, 14, 15, 6, 16, 17, 18, 19, 20, 21, 22, 23, 24, 25, 26, 27, 28, 29, 30, 31, 32, 33, 34, 35, 36] (by decide +kernel) (by decide +kernel)) (goodIn_sub (fun _ h => List.mem_cons_of_mem _ (List.mem_append_left _ (List.mem_append_right _ h))) (by decide +kernel))) (goodIn_sub (fun _ h => List.mem_cons_of_mem _ (List.mem_append_right _ h)) (by decide +kernel))
set_option maxRecDepth 20000 in
theorem gL_generator_X0_generator : GoodIn wsL_generator (wsV RL 7 RX0 yX0_generator wsX0_generator) := goodIn_app (goodIn_of _ (by decide +kernel)) ggL_generator_X0_generator
theorem dL_generator_0 : decode cL_generator 0 = .ok (.aload_n 2, 1) := by decide +kernel
theorem dL_generator_1 : decode cL_generator 1 = .ok (.iconst 0, 1) := by decide +kernel
theorem dL_generator_2 : decode cL_generator 2 = .ok (.aload_n 0, 1) := by decide +kernel
theorem dL_generator_3 : decode cL_generator 3 = .ok (.iload_n 1, 1) := by decide +kernel
theorem dL_generator_4 : decode cL_generator 4 = .ok (.invokevirtual 7, 3) := by decide +kernel
theorem dL_generator_7 : decode cL_generator 7 = .ok (.i2l, 1) := by decide +kernel
theorem dL_generator_8 : decode cL_generator 8 = .ok (.lastore, 1) := by decide +kernel
theorem dL_generator_9 : decode cL_generator 9 = .ok (.goto 9, 3) := by decide +kernel
theorem dL_generator_12 : decode cL_generator 12 = .ok (.astore_n 3, 1) := by decide +kernel
theorem dL_generator_13 : decode cL_generator 13 = .ok (.iconst 1, 1) := by decide +kernel
theorem dL_generator_14 : decode cL_generator 14 = .ok (.ireturn, 1) := by decide +kernel
theorem dL_generator_15 : decode cL_generator 15 = .ok (.astore_n 3, 1) := by decide +kernel
theorem dL_generator_16 : decode cL_generator 16 = .ok (.iconst 2, 1) := by decide +kernel
theorem dL_generator_17 : decode cL_generator 17 = .ok (.ireturn, 1) := by decide +kernel
theorem dL_generator_18 : decode cL_generator 18 = .ok (.iconst 0, 1) := by decide +kernel
theorem dL_generator_19 : decode cL_generator 19 = .ok (.ireturn, 1) := by decide +kernel
set_option maxRecDepth 20000 in
theorem ggL_adopt_X0_adopt : GoodIn wsL_adopt wsX0_adopt := goodIn_ca (goodIn_r _ [6, 7, 8, 9, 10, 11, 12, 13, 5, 14, 15, 16, 17, 18, 19, 20, 21, 22, 23, 24, 25, 26, 27, 28, 29, 30, 31, 32, 33, 34, 35, 36] (by decide +kernel) (by decide +kernel)) (goodIn_sub (fun _ h => List.mem_cons_of_mem _ (List.mem_append_right _ h)) (by decide +kernel))
set_option maxRecDepth 20000 in
theorem gL_adopt_X0_adopt : GoodIn wsL_adopt (wsV RL 17 RX0 yX0_adopt wsX0_adopt) := goodIn_app (goodIn_of _ (by decide +kernel)) ggL_adopt_X0_adopt
theorem dL_adopt_0 : decode cL_adopt 0 = .ok (.aload_n 0, 1) := by decide +kernel
theorem dL_adopt_1 : decode cL_adopt 1 = .ok (.iload_n 1, 1) := by decide +kernel
theorem dL_adopt_2 : decode cL_adopt 2 = .ok (.iload_n 2, 1) := by decide +kernel
theorem dL_adopt_3 : decode cL_adopt 3 = .ok (.iload_n 3, 1) := by decide +kernel
theorem dL_adopt_4 : decode cL_adopt 4 = .ok (.invokevirtual 17, 3) := by decide +kernel
theorem dL_adopt_7 : decode cL_adopt 7 = .ok (.goto 7, 3) := by decide +kernel
theorem dL_adopt_10 : decode cL_adopt 10 = .ok (.astore 4, 2) := by decide +kernel
theorem dL_adopt_12 : decode cL_adopt 12 = .ok (.iconst 1, 1) := by decide +kernel
theorem dL_adopt_13 : decode cL_adopt 13 = .ok (.ireturn, 1) := by decide +kernel
theorem dL_adopt_14 : decode cL_adopt 14 = .ok (.iconst 0, 1) := by decide +kernel
theorem dL_adopt_15 : decode cL_adopt 15 = .ok (.ireturn, 1) := by decide +kernel
set_option maxRecDepth 20000 in
theorem ggL_key_X0_key : GoodIn wsL_key wsX0_key := goodIn_ca (goodIn_ca (goodIn_ca (goodIn_r _ [8, 9, 10, 11, 12, 13, 14, 15, 16, 17, 18, 19, 7, 20, 21, 22, 23, 24, 25, 26, 27, 28, 29, 30, 31, 32, 33, 34, 35, 36, 37, 38, 39, 40, 41, 42] (by decide +kernel) (by decide +kernel)) (goodIn_sub (fun _ h => List.mem_cons_of_mem _ (List.mem_append_left _ (List.mem_append_left _ (List.mem_append_right _ h)))) (by decide +kernel))) (goodIn_sub (fun _ h => List.mem_cons_of_mem _ (List.mem_append_left _ (List.mem_append_right _ h))) (by decide +kernel))) (goodIn_sub (fun _ h => List.mem_cons_of_mem _ (List.mem_append_right _ h)) (by decide +kernel))
set_option maxRecDepth 20000 in
theorem gL_key_X0_key : GoodIn wsL_key (wsV RL 21 RX0 yX0_key wsX0_key) := goodIn_app (goodIn_of _ (by decide +kernel)) ggL_key_X0_key
theorem dL_key_0 : decode cL_key 0 = .ok (.aload_n 3, 1) := by decide +kernel
theorem dL_key_1 : decode cL_key 1 = .ok (.iconst 0, 1) := by decide +kernel
theorem dL_key_2 : decode cL_key 2 = .ok (.aload_n 0, 1) := by decide +kernel
theorem dL_key_3 : decode cL_key 3 = .ok (.iload_n 1, 1) := by decide +kernel
theorem dL_key_4 : decode cL_key 4 = .ok (.iload_n 2, 1) := by decide +kernel
theorem dL_key_5 : decode cL_key 5 = .ok (.invokevirtual 21, 3) := by decide +kernel
theorem dL_key_8 : decode cL_key 8 = .ok (.i2l, 1) := by decide +kernel
theorem dL_key_9 : decode cL_key 9 = .ok (.lastore, 1) := by decide +kernel
theorem dL_key_10 : decode cL_key 10 = .ok (.goto 15, 3) := by decide +kernel
theorem dL_key_13 : decode cL_key 13 = .ok (.astore 4, 2) := by decide +kernel
theorem dL_key_15 : decode cL_key 15 = .ok (.iconst 1, 1) := by decide +kernel
theorem dL_key_16 : decode cL_key 16 = .ok (.ireturn, 1) := by decide +kernel
theorem dL_key_17 : decode cL_key 17 = .ok (.astore 4, 2) := by decide +kernel
theorem dL_key_19 : decode cL_key 19 = .ok (.iconst 2, 1) := by decide +kernel
theorem dL_key_20 : decode cL_key 20 = .ok (.ireturn, 1) := by decide +kernel
theorem dL_key_21 : decode cL_key 21 = .ok (.astore 4, 2) := by decide +kernel
theorem dL_key_23 : decode cL_key 23 = .ok (.iconst 3, 1) := by decide +kernel
theorem dL_key_24 : decode cL_key 24 = .ok (.ireturn, 1) := by decide +kernel
theorem dL_key_25 : decode cL_key 25 = .ok (.iconst 0, 1) := by decide +kernel
theorem dL_key_26 : decode cL_key 26 = .ok (.ireturn, 1) := by decide +kernel
set_option maxRecDepth 20000 in
theorem ggL_publicNumber_X0_publicNumber : GoodIn wsL_publicNumber wsX0_publicNumber := goodIn_ca (goodIn_r _ [6, 7, 8, 9, 10, 5, 11, 12, 13, 14, 15, 16, 17, 18, 19, 20, 21, 22, 23, 24, 25, 26] (by decide +kernel) (by decide +kernel)) (goodIn_sub (fun _ h => List.mem_cons_of_mem _ (List.mem_append_right _ h)) (by decide +kernel))
set_option maxRecDepth 20000 in
theorem gL_publicNumber_X0_publicNumber : GoodIn wsL_publicNumber (wsV RL 27 RX0 yX0_publicNumber wsX0_publicNumber) := goodIn_app (goodIn_of _ (by decide +kernel)) ggL_publicNumber_X0_publicNumber
theorem dL_publicNumber_0 : decode cL_publicNumber 0 = .ok (.aload_n 2, 1) := by decide +kernel
theorem dL_publicNumber_1 : decode cL_publicNumber 1 = .ok (.iconst 0, 1) := by decide +kernel
theorem dL_publicNumber_2 : decode cL_publicNumber 2 = .ok (.aload_n 0, 1) := by decide +kernel
theorem dL_publicNumber_3 : decode cL_publicNumber 3 = .ok (.iload_n 1, 1) := by decide +kernel
theorem dL_publicNumber_4 : decode cL_publicNumber 4 = .ok (.invokevirtual 27, 3) := by decide +kernel
theorem dL_publicNumber_7 : decode cL_publicNumber 7 = .ok (.i2l, 1) := by decide +kernel
theorem dL_publicNumber_8 : decode cL_publicNumber 8 = .ok (.lastore, 1) := by decide +kernel
theorem dL_publicNumber_9 : decode cL_publicNumber 9 = .ok (.goto 6, 3) := by decide +kernel
theorem dL_publicNumber_12 : decode cL_publicNumber 12 = .ok (.astore_n 3, 1) := by decide +kernel
theorem dL_publicNumber_13 : decode cL_publicNumber 13 = .ok (.iconst 1, 1) := by decide +kernel
theorem dL_publicNumber_14 : decode cL_publicNumber 14 = .ok (.ireturn, 1) := by decide +kernel
theorem dL_publicNumber_15 : decode cL_publicNumber 15 = .ok (.iconst 0, 1) := by decide +kernel
theorem dL_publicNumber_16 : decode cL_publicNumber 16 = .ok (.ireturn, 1) := by decide +kernel
set_option maxRecDepth 20000 in
theorem ggL_forget_X0_forget : GoodIn wsL_forget wsX0_forget := goodIn_ca (goodIn_r _ [6, 7, 8, 9, 5, 10, 11, 12, 13, 14, 15, 16, 17, 18, 19, 20, 21, 22, 23, 24, 25, 26, 27, 28, 29, 30] (by decide +kernel) (by decide +kernel)) (goodIn_sub (fun _ h => List.mem_cons_of_mem _ (List.mem_append_right _ h)) (by decide +kernel))
set_option maxRecDepth 20000 in
theorem gL_forget_X0_forget : GoodIn wsL_forget (wsV RL 32 RX0 yX0_forget wsX0_forget) := goodIn_app (goodIn_of _ (by decide +kernel)) ggL_forget_X0_forget
theorem dL_forget_0 : decode cL_forget 0 = .ok (.aload_n 0, 1) := by decide +kernel
theorem dL_forget_1 : decode cL_forget 1 = .ok (.iload_n 1, 1) := by decide +kernel
theorem dL_forget_2 : decode cL_forget 2 = .ok (.invokevirtual 32, 3) := by decide +kernel
theorem dL_forget_5 : decode cL_forget 5 = .ok (.goto 6, 3) := by decide +kernel
theorem dL_forget_8 : decode cL_forget 8 = .ok (.astore_n 2, 1) := by decide +kernel
theorem dL_forget_9 : decode cL_forget 9 = .ok (.iconst 1, 1) := by decide +kernel
theorem dL_forget_10 : decode cL_forget 10 = .ok (.ireturn, 1) := by decide +kernel
theorem dL_forget_11 : decode cL_forget 11 = .ok (.iconst 0, 1) := by decide +kernel
theorem dL_forget_12 : decode cL_forget 12 = .ok (.ireturn, 1) := by decide +kernel
set_option maxRecDepth 20000 in
theorem ggL_fits_X0_fits : GoodIn wsL_fits wsX0_fits := goodIn_ca (goodIn_r _ [6, 7, 8, 9, 10, 11, 5, 12, 13, 14, 15, 16, 17, 18, 19, 20, 21, 22, 23, 24, 25, 26, 27, 28, 29, 30] (by decide +kernel) (by decide +kernel)) (goodIn_sub (fun _ h => List.mem_cons_of_mem _ (List.mem_append_right _ h)) (by decide +kernel))
set_option maxRecDepth 20000 in
theorem gL_fits_X0_fits : GoodIn wsL_fits (wsV RL 36 RX0 yX0_fits wsX0_fits) := goodIn_app (goodIn_of _ (by decide +kernel)) ggL_fits_X0_fits
theorem dL_fits_0 : decode cL_fits 0 = .ok (.aload_n 2, 1) := by decide +kernel
theorem dL_fits_1 : decode cL_fits 1 = .ok (.iconst 0, 1) := by decide +kernel
theorem dL_fits_2 : decode cL_fits 2 = .ok (.aload_n 0, 1) := by decide +kernel
theorem dL_fits_3 : decode cL_fits 3 = .ok (.iload_n 1, 1) := by decide +kernel
theorem dL_fits_4 : decode cL_fits 4 = .ok (.invokevirtual 36, 3) := by decide +kernel
theorem dL_fits_7 : decode cL_fits 7 = .ok (.ifCond .eq 7, 3) := by decide +kernel
theorem dL_fits_10 : decode cL_fits 10 = .ok (.lconst 1, 1) := by decide +kernel
theorem dL_fits_11 : decode cL_fits 11 = .ok (.goto 4, 3) := by decide +kernel
theorem dL_fits_14 : decode cL_fits 14 = .ok (.lconst 0, 1) := by decide +kernel
theorem dL_fits_15 : decode cL_fits 15 = .ok (.lastore, 1) := by decide +kernel
theorem dL_fits_16 : decode cL_fits 16 = .ok (.goto 6, 3) := by decide +kernel
theorem dL_fits_19 : decode cL_fits 19 = .ok (.astore_n 3, 1) := by decide +kernel
theorem dL_fits_20 : decode cL_fits 20 = .ok (.iconst 1, 1) := by decide +kernel
theorem dL_fits_21 : decode cL_fits 21 = .ok (.ireturn, 1) := by decide +kernel
theorem dL_fits_22 : decode cL_fits 22 = .ok (.iconst 0, 1) := by decide +kernel
theorem dL_fits_23 : decode cL_fits 23 = .ok (.ireturn, 1) := by decide +kernel
set_option maxRecDepth 20000 in
theorem ggL_sign_X0_sign : GoodIn wsL_sign wsX0_sign := goodIn_ca (goodIn_ca (goodIn_ca (goodIn_r _ [8, 9, 10, 11, 12, 13, 14, 15, 16, 17, 18, 19, 7, 20, 21, 22, 23, 24, 25, 26, 27, 28, 29, 30, 31, 32, 33, 34, 35, 36, 37, 38, 39, 40, 41, 42, 43, 44, 45, 46, 47, 48, 49, 50, 51, 52, 53, 54, 55] (by decide +kernel) (by decide +kernel)) (goodIn_sub (fun _ h => List.mem_cons_of_mem _ (List.mem_append_left _ (List.mem_append_left _ (List.mem_append_right _ h)))) (by decide +kernel))) (goodIn_sub (fun _ h => List.mem_cons_of_mem _ (List.mem_append_left _ (List.mem_append_right _ h))) (by decide +kernel))) (goodIn_sub (fun _ h => List.mem_cons_of_mem _ (List.mem_append_right _ h)) (by decide +kernel))
set_option maxRecDepth 20000 in
theorem gL_sign_X0_sign : GoodIn wsL_sign (wsV RL 40 RX0 yX0_sign wsX0_sign) := goodIn_app (goodIn_of _ (by decide +kernel)) ggL_sign_X0_sign
theorem dL_sign_0 : decode cL_sign 0 = .ok (.aload 5, 2) := by decide +kernel
theorem dL_sign_2 : decode cL_sign 2 = .ok (.iconst 0, 1) := by decide +kernel
theorem dL_sign_3 : decode cL_sign 3 = .ok (.aload_n 0, 1) := by decide +kernel
theorem dL_sign_4 : decode cL_sign 4 = .ok (.iload_n 1, 1) := by decide +kernel
theorem dL_sign_5 : decode cL_sign 5 = .ok (.lload_n 2, 1) := by decide +kernel
theorem dL_sign_6 : decode cL_sign 6 = .ok (.iload 4, 2) := by decide +kernel
theorem dL_sign_8 : decode cL_sign 8 = .ok (.invokevirtual 40, 3) := by decide +kernel
theorem dL_sign_11 : decode cL_sign 11 = .ok (.lastore, 1) := by decide +kernel
theorem dL_sign_12 : decode cL_sign 12 = .ok (.goto 15, 3) := by decide +kernel
theorem dL_sign_15 : decode cL_sign 15 = .ok (.astore 6, 2) := by decide +kernel
theorem dL_sign_17 : decode cL_sign 17 = .ok (.iconst 1, 1) := by decide +kernel
theorem dL_sign_18 : decode cL_sign 18 = .ok (.ireturn, 1) := by decide +kernel
theorem dL_sign_19 : decode cL_sign 19 = .ok (.astore 6, 2) := by decide +kernel
theorem dL_sign_21 : decode cL_sign 21 = .ok (.iconst 2, 1) := by decide +kernel
theorem dL_sign_22 : decode cL_sign 22 = .ok (.ireturn, 1) := by decide +kernel
theorem dL_sign_23 : decode cL_sign 23 = .ok (.astore 6, 2) := by decide +kernel
theorem dL_sign_25 : decode cL_sign 25 = .ok (.iconst 3, 1) := by decide +kernel
theorem dL_sign_26 : decode cL_sign 26 = .ok (.ireturn, 1) := by decide +kernel
theorem dL_sign_27 : decode cL_sign 27 = .ok (.iconst 0, 1) := by decide +kernel
theorem dL_sign_28 : decode cL_sign 28 = .ok (.ireturn, 1) := by decide +kernel
set_option maxRecDepth 20000 in
theorem ggL_verify_X0_verify : GoodIn wsL_verify wsX0_verify := goodIn_ca (goodIn_r _ [6, 7, 8, 9, 10, 11, 12, 5, 13, 14, 15, 16, 17, 18, 19, 20, 21, 22, 23, 24, 25, 26, 27, 28, 29, 30, 31, 32, 33, 34, 35, 36, 37, 38, 39, 40, 41, 42, 43, 44, 45] (by decide +kernel) (by decide +kernel)) (goodIn_sub (fun _ h => List.mem_cons_of_mem _ (List.mem_append_right _ h)) (by decide +kernel))
set_option maxRecDepth 20000 in
theorem gL_verify_X0_verify : GoodIn wsL_verify (wsV RL 46 RX0 yX0_verify wsX0_verify) := goodIn_app (goodIn_of _ (by decide +kernel)) ggL_verify_X0_verify
theorem dL_verify_0 : decode cL_verify 0 = .ok (.aload 6, 2) := by decide +kernel
theorem dL_verify_2 : decode cL_verify 2 = .ok (.iconst 0, 1) := by decide +kernel
theorem dL_verify_3 : decode cL_verify 3 = .ok (.aload_n 0, 1) := by decide +kernel
theorem dL_verify_4 : decode cL_verify 4 = .ok (.iload_n 1, 1) := by decide +kernel
theorem dL_verify_5 : decode cL_verify 5 = .ok (.lload_n 2, 1) := by decide +kernel
theorem dL_verify_6 : decode cL_verify 6 = .ok (.iload 4, 2) := by decide +kernel
theorem dL_verify_8 : decode cL_verify 8 = .ok (.iload 5, 2) := by decide +kernel
theorem dL_verify_10 : decode cL_verify 10 = .ok (.invokevirtual 46, 3) := by decide +kernel
theorem dL_verify_13 : decode cL_verify 13 = .ok (.ifCond .eq 7, 3) := by decide +kernel
theorem dL_verify_16 : decode cL_verify 16 = .ok (.lconst 1, 1) := by decide +kernel
theorem dL_verify_17 : decode cL_verify 17 = .ok (.goto 4, 3) := by decide +kernel
theorem dL_verify_20 : decode cL_verify 20 = .ok (.lconst 0, 1) := by decide +kernel
theorem dL_verify_21 : decode cL_verify 21 = .ok (.lastore, 1) := by decide +kernel
theorem dL_verify_22 : decode cL_verify 22 = .ok (.goto 7, 3) := by decide +kernel
theorem dL_verify_25 : decode cL_verify 25 = .ok (.astore 7, 2) := by decide +kernel
theorem dL_verify_27 : decode cL_verify 27 = .ok (.iconst 1, 1) := by decide +kernel
theorem dL_verify_28 : decode cL_verify 28 = .ok (.ireturn, 1) := by decide +kernel
theorem dL_verify_29 : decode cL_verify 29 = .ok (.iconst 0, 1) := by decide +kernel
theorem dL_verify_30 : decode cL_verify 30 = .ok (.ireturn, 1) := by decide +kernel
set_option maxRecDepth 20000 in
theorem ggL_agree_X0_agree : GoodIn wsL_agree wsX0_agree := goodIn_ca (goodIn_ca (goodIn_ca (goodIn_r _ [8, 9, 10, 11, 12, 13, 14, 15, 16, 17, 7, 18, 19, 20, 21, 22, 23, 24, 25, 26, 27, 28, 29, 30, 31, 32, 33, 34, 35, 36, 37, 38, 39] (by decide +kernel) (by decide +kernel)) (goodIn_sub (fun _ h => List.mem_cons_of_mem _ (List.mem_append_left _ (List.mem_append_left _ (List.mem_append_right _ h)))) (by decide +kernel))) (goodIn_sub (fun _ h => List.mem_cons_of_mem _ (List.mem_append_left _ (List.mem_append_right _ h))) (by decide +kernel))) (goodIn_sub (fun _ h => List.mem_cons_of_mem _ (List.mem_append_right _ h)) (by decide +kernel))
set_option maxRecDepth 20000 in
theorem gL_agree_X0_agree : GoodIn wsL_agree (wsV RL 50 RX0 yX0_agree wsX0_agree) := goodIn_app (goodIn_of _ (by decide +kernel)) ggL_agree_X0_agree
theorem dL_agree_0 : decode cL_agree 0 = .ok (.aload_n 3, 1) := by decide +kernel
theorem dL_agree_1 : decode cL_agree 1 = .ok (.iconst 0, 1) := by decide +kernel
theorem dL_agree_2 : decode cL_agree 2 = .ok (.aload_n 0, 1) := by decide +kernel
theorem dL_agree_3 : decode cL_agree 3 = .ok (.iload_n 1, 1) := by decide +kernel
theorem dL_agree_4 : decode cL_agree 4 = .ok (.iload_n 2, 1) := by decide +kernel
theorem dL_agree_5 : decode cL_agree 5 = .ok (.invokevirtual 50, 3) := by decide +kernel
theorem dL_agree_8 : decode cL_agree 8 = .ok (.i2l, 1) := by decide +kernel
theorem dL_agree_9 : decode cL_agree 9 = .ok (.lastore, 1) := by decide +kernel
theorem dL_agree_10 : decode cL_agree 10 = .ok (.goto 15, 3) := by decide +kernel
theorem dL_agree_13 : decode cL_agree 13 = .ok (.astore 4, 2) := by decide +kernel
theorem dL_agree_15 : decode cL_agree 15 = .ok (.iconst 1, 1) := by decide +kernel
theorem dL_agree_16 : decode cL_agree 16 = .ok (.ireturn, 1) := by decide +kernel
theorem dL_agree_17 : decode cL_agree 17 = .ok (.astore 4, 2) := by decide +kernel
theorem dL_agree_19 : decode cL_agree 19 = .ok (.iconst 2, 1) := by decide +kernel
theorem dL_agree_20 : decode cL_agree 20 = .ok (.ireturn, 1) := by decide +kernel
theorem dL_agree_21 : decode cL_agree 21 = .ok (.astore 4, 2) := by decide +kernel
theorem dL_agree_23 : decode cL_agree 23 = .ok (.iconst 3, 1) := by decide +kernel
theorem dL_agree_24 : decode cL_agree 24 = .ok (.ireturn, 1) := by decide +kernel
theorem dL_agree_25 : decode cL_agree 25 = .ok (.iconst 0, 1) := by decide +kernel
theorem dL_agree_26 : decode cL_agree 26 = .ok (.ireturn, 1) := by decide +kernel
set_option maxRecDepth 20000 in
theorem ggL_law_X0_init : GoodIn wsL_law wsX0_init := goodIn_r _ [10, 11, 12, 13, 14, 15, 16, 287, 288, 289, 290, 291, 292, 293, 294, 295] (by decide +kernel) (by decide +kernel)
set_option maxRecDepth 20000 in
theorem gL_law_X0_init : GoodIn wsL_law (wsX0_init) := ggL_law_X0_init
set_option maxRecDepth 20000 in
theorem ggL_law_X1_init : GoodIn wsL_law wsX1_init := goodIn_r _ [19, 20, 12, 13, 14, 21, 296, 297, 298, 299, 300, 301, 302, 303, 304, 305, 306, 307, 308] (by decide +kernel) (by decide +kernel)
set_option maxRecDepth 20000 in
theorem gL_law_X1_init : GoodIn wsL_law (wsX1_init) := ggL_law_X1_init
set_option maxRecDepth 20000 in
theorem ggL_law_X0_generate : GoodIn wsL_law wsX0_generate := goodIn_r _ [25, 26, 27, 28, 29, 30, 31, 2, 32, 33, 34, 35, 36, 37, 38, 39, 40, 41, 42, 43, 44, 45, 46, 47, 48, 49, 50, 287, 288, 289, 290, 291, 292, 293, 294, 295] (by decide +kernel) (by decide +kernel)
set_option maxRecDepth 20000 in
theorem gL_law_X0_generate : GoodIn wsL_law (wsV RL 59 RX0 yX0_generate wsX0_generate) := goodIn_app (goodIn_of _ (by decide +kernel)) ggL_law_X0_generate
set_option maxRecDepth 20000 in
theorem ggL_law_X1_generate : GoodIn wsL_law wsX1_generate := goodIn_r _ [54, 55, 56, 57, 58, 59, 60, 61, 62, 63, 64, 65, 66, 5, 67, 68, 69, 70, 71, 72, 73, 74, 75, 76, 77, 78, 79, 296, 297, 298, 299, 300, 301, 302, 303, 304, 305, 306, 307, 308] (by decide +kernel) (by decide +kernel)
set_option maxRecDepth 20000 in
theorem gL_law_X1_generate : GoodIn wsL_law (wsV RL 63 RX1 yX1_generate wsX1_generate) := goodIn_app (goodIn_of _ (by decide +kernel)) ggL_law_X1_generate
set_option maxRecDepth 20000 in
theorem ggL_law_X0_candidate : GoodIn wsL_law wsX0_candidate := goodIn_r _ [83, 27, 26, 28, 29, 287, 288, 289, 290, 291, 292, 293, 294, 295] (by decide +kernel) (by decide +kernel)
set_option maxRecDepth 20000 in
theorem gL_law_X0_candidate : GoodIn wsL_law (wsV RL 64 RX0 yX0_candidate wsX0_candidate) := goodIn_app (goodIn_of _ (by decide +kernel)) ggL_law_X0_candidate
set_option maxRecDepth 20000 in
theorem ggL_law_X1_candidate : GoodIn wsL_law wsX1_candidate := goodIn_r _ [87, 55, 57, 60, 62, 58, 63, 296, 297, 298, 299, 300, 301, 302, 303, 304, 305, 306, 307, 308] (by decide +kernel) (by decide +kernel)
set_option maxRecDepth 20000 in
theorem gL_law_X1_candidate : GoodIn wsL_law (wsV RL 68 RX1 yX1_candidate wsX1_candidate) := goodIn_app (goodIn_of _ (by decide +kernel)) ggL_law_X1_candidate
set_option maxRecDepth 20000 in
theorem ggL_law_L_generator : GoodIn wsL_law wsL_generator := goodIn_ca (goodIn_ca (goodIn_r _ [91, 92, 93, 94, 95, 96, 2, 97, 98, 99, 100, 101, 27, 102, 103, 104, 105, 28, 26, 37, 38, 39, 40, 41, 42, 106, 107, 108, 287, 288, 289, 290, 291, 292, 293, 294, 295] (by decide +kernel) (by decide +kernel)) (goodIn_sub (fun _ h => List.mem_append_left _ (List.mem_append_left _ (List.mem_append_left _ (List.mem_append_left _ (List.mem_append_right _ h))))) (by decide +kernel))) (goodIn_sub (fun _ h => List.mem_append_left _ (List.mem_append_left _ (List.mem_append_left _ (List.mem_append_right _ h)))) (by decide +kernel))
set_option maxRecDepth 20000 in
theorem gL_law_L_generator : GoodIn wsL_law (va_wsS RL 69 yL_generator wsL_generator) := goodIn_app (goodIn_of _ (by decide +kernel)) ggL_law_L_generator
set_option maxRecDepth 20000 in
theorem ggL_law_X1_generator : GoodIn wsL_law wsX1_generator := goodIn_r _ [112, 57, 55, 58, 113, 60, 62, 70, 71, 5, 72, 73, 74, 75, 114, 115, 116, 296, 297, 298, 299, 300, 301, 302, 303, 304, 305, 306, 307, 308] (by decide +kernel) (by decide +kernel)
set_option maxRecDepth 20000 in
theorem gL_law_X1_generator : GoodIn wsL_law (wsV RL 74 RX1 yX1_generator wsX1_generator) := goodIn_app (goodIn_of _ (by decide +kernel)) ggL_law_X1_generator
set_option maxRecDepth 20000 in
theorem ggL_law_X1_thrown : GoodIn wsL_law wsX1_thrown := goodIn_r _ [120, 55, 296, 297, 298, 299, 300, 301, 302, 303, 304, 305, 306, 307, 308] (by decide +kernel) (by decide +kernel)
set_option maxRecDepth 20000 in
theorem gL_law_X1_thrown : GoodIn wsL_law (wsV RL 75 RX1 yX1_thrown wsX1_thrown) := goodIn_app (goodIn_of _ (by decide +kernel)) ggL_law_X1_thrown
set_option maxRecDepth 20000 in
theorem ggL_law_X0_valid : GoodIn wsL_law wsX0_valid := goodIn_r _ [124, 34, 35, 2, 36, 37, 38, 39, 40, 41, 42, 30, 31, 32, 33, 43, 44, 45, 46, 47, 48, 49, 50] (by decide +kernel) (by decide +kernel)
set_option maxRecDepth 20000 in
theorem gL_law_X0_valid : GoodIn wsL_law (wsV RL 79 RX0 yX0_valid wsX0_valid) := goodIn_app (goodIn_of _ (by decide +kernel)) ggL_law_X0_valid
set_option maxRecDepth 20000 in
theorem ggL_law_X1_valid : GoodIn wsL_law wsX1_valid := goodIn_r _ [128, 55, 56, 59, 61, 64, 65, 66, 5, 67, 68, 69, 70, 71, 72, 73, 74, 75, 76, 77, 78, 79, 296, 297, 298, 299, 300, 301, 302, 303, 304, 305, 306, 307, 308] (by decide +kernel) (by decide +kernel)
set_option maxRecDepth 20000 in
theorem gL_law_X1_valid : GoodIn wsL_law (wsV RL 83 RX1 yX1_valid wsX1_valid) := goodIn_app (goodIn_of _ (by decide +kernel)) ggL_law_X1_valid
set_option maxRecDepth 20000 in
theorem ggL_law_L_adopt : GoodIn wsL_law wsL_adopt := goodIn_ca (goodIn_r _ [131, 93, 132, 133, 134, 2, 135, 100, 101, 136, 137, 138, 139, 140, 141, 43, 44, 45, 46, 106, 107, 108, 142, 143, 144, 145, 15, 16, 287, 288, 289, 290, 291, 292, 293, 294, 295] (by decide +kernel) (by decide +kernel)) (goodIn_sub (fun _ h => List.mem_append_left _ (List.mem_append_left _ (List.mem_append_left _ (List.mem_append_right _ h)))) (by decide +kernel))
set_option maxRecDepth 20000 in
theorem gL_law_L_adopt : GoodIn wsL_law (va_wsS RL 84 yL_adopt wsL_adopt) := goodIn_app (goodIn_of _ (by decide +kernel)) ggL_law_L_adopt
set_option maxRecDepth 20000 in
theorem ggL_law_X1_adopt : GoodIn wsL_law wsX1_adopt := goodIn_r _ [149, 55, 150, 151, 152, 21, 76, 77, 5, 78, 79, 69, 114, 115, 116, 296, 297, 298, 299, 300, 301, 302, 303, 304, 305, 306, 307, 308] (by decide +kernel) (by decide +kernel)
set_option maxRecDepth 20000 in
theorem gL_law_X1_adopt : GoodIn wsL_law (wsV RL 87 RX1 yX1_adopt wsX1_adopt) := goodIn_app (goodIn_of _ (by decide +kernel)) ggL_law_X1_adopt
set_option maxRecDepth 20000 in
theorem ggL_law_X0_domain : GoodIn wsL_law wsX0_domain := goodIn_r _ [156, 136, 137, 138, 287, 288, 289, 290, 291, 292, 293, 294, 295] (by decide +kernel) (by decide +kernel)
set_option maxRecDepth 20000 in
theorem gL_law_X0_domain : GoodIn wsL_law (wsV RL 88 RX0 yX0_domain wsX0_domain) := goodIn_app (goodIn_of _ (by decide +kernel)) ggL_law_X0_domain
set_option maxRecDepth 20000 in
theorem ggL_law_X1_domain : GoodIn wsL_law wsX1_domain := goodIn_r _ [160, 55, 150, 151, 152, 296, 297, 298, 299, 300, 301, 302, 303, 304, 305, 306, 307, 308] (by decide +kernel) (by decide +kernel)
set_option maxRecDepth 20000 in
theorem gL_law_X1_domain : GoodIn wsL_law (wsV RL 91 RX1 yX1_domain wsX1_domain) := goodIn_app (goodIn_of _ (by decide +kernel)) ggL_law_X1_domain
set_option maxRecDepth 20000 in
theorem ggL_law_L_key : GoodIn wsL_law wsL_key := goodIn_ca (goodIn_ca (goodIn_ca (goodIn_r _ [163, 92, 164, 93, 165, 166, 167, 2, 168, 169, 170, 100, 101, 15, 16, 138, 136, 171, 172, 173, 174, 98, 99, 175, 176, 177, 178, 179, 180, 181, 137, 106, 107, 108, 287, 288, 289, 290, 291, 292, 293, 294, 295] (by decide +kernel) (by decide +kernel)) (goodIn_sub (fun _ h => List.mem_append_left _ (List.mem_append_left _ (List.mem_append_right _ h))) (by decide +kernel))) (goodIn_sub (fun _ h => List.mem_append_left _ (List.mem_append_left _ (List.mem_append_left _ (List.mem_append_right _ h)))) (by decide +kernel))) (goodIn_sub (fun _ h => List.mem_append_left _ (List.mem_append_left _ (List.mem_append_left _ (List.mem_append_left _ (List.mem_append_right _ h))))) (by decide +kernel))
set_option maxRecDepth 20000 in
theorem gL_law_L_key : GoodIn wsL_law (va_wsS RL 92 yL_key wsL_key) := goodIn_app (goodIn_of _ (by decide +kernel)) ggL_law_L_key
set_option maxRecDepth 20000 in
theorem ggL_law_X1_key : GoodIn wsL_law wsX1_key := goodIn_r _ [185, 150, 151, 55, 21, 152, 114, 115, 5, 116, 296, 297, 298, 299, 300, 301, 302, 303, 304, 305, 306, 307, 308] (by decide +kernel) (by decide +kernel)
set_option maxRecDepth 20000 in
theorem gL_law_X1_key : GoodIn wsL_law (wsV RL 95 RX1 yX1_key wsX1_key) := goodIn_app (goodIn_of _ (by decide +kernel)) ggL_law_X1_key
set_option maxRecDepth 20000 in
theorem ggL_law_L_publicNumber : GoodIn wsL_law wsL_publicNumber := goodIn_ca (goodIn_r _ [188, 189, 190, 191, 192, 2, 193, 16, 194, 195, 196, 197, 198, 199, 15, 175, 176, 177, 287, 288, 289, 290, 291, 292, 293, 294, 295] (by decide +kernel) (by decide +kernel)) (goodIn_sub (fun _ h => List.mem_append_left _ (List.mem_append_right _ h)) (by decide +kernel))
set_option maxRecDepth 20000 in
theorem gL_law_L_publicNumber : GoodIn wsL_law (va_wsS RL 96 yL_publicNumber wsL_publicNumber) := goodIn_app (goodIn_of _ (by decide +kernel)) ggL_law_L_publicNumber
set_option maxRecDepth 20000 in
theorem ggL_law_X1_publicNumber : GoodIn wsL_law wsX1_publicNumber := goodIn_r _ [203, 55, 152, 21, 150, 204, 205, 206, 5, 207, 114, 115, 116, 296, 297, 298, 299, 300, 301, 302, 303, 304, 305, 306, 307, 308] (by decide +kernel) (by decide +kernel)
set_option maxRecDepth 20000 in
theorem gL_law_X1_publicNumber : GoodIn wsL_law (wsV RL 98 RX1 yX1_publicNumber wsX1_publicNumber) := goodIn_app (goodIn_of _ (by decide +kernel)) ggL_law_X1_publicNumber
set_option maxRecDepth 20000 in
theorem ggL_law_L_forget : GoodIn wsL_law wsL_forget := goodIn_ca (goodIn_r _ [210, 189, 211, 212, 213, 2, 214, 194, 195, 196, 197, 198, 199, 15, 175, 176, 177, 142, 143, 144, 145, 16, 287, 288, 289, 290, 291, 292, 293, 294, 295] (by decide +kernel) (by decide +kernel)) (goodIn_sub (fun _ h => List.mem_append_left _ (List.mem_append_right _ h)) (by decide +kernel))
set_option maxRecDepth 20000 in
theorem gL_law_L_forget : GoodIn wsL_law (va_wsS RL 99 yL_forget wsL_forget) := goodIn_app (goodIn_of _ (by decide +kernel)) ggL_law_L_forget
set_option maxRecDepth 20000 in
theorem ggL_law_X1_forget : GoodIn wsL_law wsX1_forget := goodIn_r _ [218, 55, 21, 204, 205, 206, 5, 207, 296, 297, 298, 299, 300, 301, 302, 303, 304, 305, 306, 307, 308] (by decide +kernel) (by decide +kernel)
set_option maxRecDepth 20000 in
theorem gL_law_X1_forget : GoodIn wsL_law (wsV RL 102 RX1 yX1_forget wsX1_forget) := goodIn_app (goodIn_of _ (by decide +kernel)) ggL_law_X1_forget
set_option maxRecDepth 20000 in
theorem ggL_law_L_fits : GoodIn wsL_law wsL_fits := goodIn_ca (goodIn_r _ [221, 92, 222, 223, 224, 2, 225, 137, 136, 171, 172, 173, 174, 98, 99, 226, 227, 228, 229, 106, 107, 108, 287, 288, 289, 290, 291, 292, 293, 294, 295] (by decide +kernel) (by decide +kernel)) (goodIn_sub (fun _ h => List.mem_append_left _ (List.mem_append_left _ (List.mem_append_left _ (List.mem_append_left _ (List.mem_append_right _ h))))) (by decide +kernel))
set_option maxRecDepth 20000 in
theorem gL_law_L_fits : GoodIn wsL_law (va_wsS RL 103 yL_fits wsL_fits) := goodIn_app (goodIn_of _ (by decide +kernel)) ggL_law_L_fits
set_option maxRecDepth 20000 in
theorem ggL_law_X1_fits : GoodIn wsL_law wsX1_fits := goodIn_r _ [233, 150, 55, 151, 114, 115, 5, 116, 296, 297, 298, 299, 300, 301, 302, 303, 304, 305, 306, 307, 308] (by decide +kernel) (by decide +kernel)
set_option maxRecDepth 20000 in
theorem gL_law_X1_fits : GoodIn wsL_law (wsV RL 105 RX1 yX1_fits wsX1_fits) := goodIn_app (goodIn_of _ (by decide +kernel)) ggL_law_X1_fits
set_option maxRecDepth 20000 in
theorem ggL_law_X0_digest : GoodIn wsL_law wsX0_digest := goodIn_r _ [237, 238, 37, 38, 2, 39, 40, 41, 42] (by decide +kernel) (by decide +kernel)
set_option maxRecDepth 20000 in
theorem gL_law_X0_digest : GoodIn wsL_law (wsV RL 106 RX0 yX0_digest wsX0_digest) := goodIn_app (goodIn_of _ (by decide +kernel)) ggL_law_X0_digest
set_option maxRecDepth 20000 in
theorem ggL_law_X1_digest : GoodIn wsL_law wsX1_digest := goodIn_r _ [242, 55, 243, 244, 5, 245, 79, 70, 71, 72, 73, 74, 75, 296, 297, 298, 299, 300, 301, 302, 303, 304, 305, 306, 307, 308] (by decide +kernel) (by decide +kernel)
set_option maxRecDepth 20000 in
theorem gL_law_X1_digest : GoodIn wsL_law (wsV RL 109 RX1 yX1_digest wsX1_digest) := goodIn_app (goodIn_of _ (by decide +kernel)) ggL_law_X1_digest
set_option maxRecDepth 20000 in
theorem ggL_law_L_sign : GoodIn wsL_law wsL_sign := goodIn_ca (goodIn_ca (goodIn_ca (goodIn_r _ [248, 189, 93, 249, 250, 251, 252, 2, 253, 100, 101, 254, 255, 138, 136, 137, 15, 194, 195, 196, 197, 198, 199, 175, 176, 177, 178, 179, 180, 181, 106, 107, 108, 256, 235, 236, 237, 238, 37, 38, 39, 40, 41, 42, 257, 258, 259, 287, 288, 289, 290, 291, 292, 293, 294, 295] (by decide +kernel) (by decide +kernel)) (goodIn_sub (fun _ h => List.mem_append_left _ (List.mem_append_left _ (List.mem_append_left _ (List.mem_append_right _ h)))) (by decide +kernel))) (goodIn_sub (fun _ h => List.mem_append_right _ h) (by decide +kernel))) (goodIn_sub (fun _ h => List.mem_append_left _ (List.mem_append_right _ h)) (by decide +kernel))
set_option maxRecDepth 20000 in
theorem gL_law_L_sign : GoodIn wsL_law (va_wsS RL 110 yL_sign wsL_sign) := goodIn_app (goodIn_of _ (by decide +kernel)) ggL_law_L_sign
set_option maxRecDepth 20000 in
theorem ggL_law_X1_sign : GoodIn wsL_law wsX1_sign := goodIn_r _ [263, 151, 55, 152, 150, 21, 264, 204, 205, 206, 5, 207, 114, 115, 116, 243, 244, 245, 79, 70, 71, 72, 73, 74, 75, 296, 297, 298, 299, 300, 301, 302, 303, 304, 305, 306, 307, 308] (by decide +kernel) (by decide +kernel)
set_option maxRecDepth 20000 in
theorem gL_law_X1_sign : GoodIn wsL_law (wsV RL 113 RX1 yX1_sign wsX1_sign) := goodIn_app (goodIn_of _ (by decide +kernel)) ggL_law_X1_sign
set_option maxRecDepth 20000 in
theorem ggL_law_L_verify : GoodIn wsL_law wsL_verify := goodIn_ca (goodIn_r _ [267, 92, 268, 269, 270, 2, 271, 136, 137, 138, 171, 172, 173, 174, 98, 99, 178, 179, 180, 181, 257, 258, 259, 106, 107, 108, 256, 235, 236, 237, 238, 37, 38, 39, 40, 41, 42, 287, 288, 289, 290, 291, 292, 293, 294, 295] (by decide +kernel) (by decide +kernel)) (goodIn_sub (fun _ h => List.mem_append_left _ (List.mem_append_left _ (List.mem_append_left _ (List.mem_append_left _ (List.mem_append_right _ h))))) (by decide +kernel))
set_option maxRecDepth 20000 in
theorem gL_law_L_verify : GoodIn wsL_law (va_wsS RL 114 yL_verify wsL_verify) := goodIn_app (goodIn_of _ (by decide +kernel)) ggL_law_L_verify
set_option maxRecDepth 20000 in
theorem ggL_law_X1_verify : GoodIn wsL_law wsX1_verify := goodIn_r _ [275, 150, 55, 151, 152, 114, 115, 5, 116, 243, 244, 245, 79, 70, 71, 72, 73, 74, 75, 296, 297, 298, 299, 300, 301, 302, 303, 304, 305, 306, 307, 308] (by decide +kernel) (by decide +kernel)
set_option maxRecDepth 20000 in
theorem gL_law_X1_verify : GoodIn wsL_law (wsV RL 117 RX1 yX1_verify wsX1_verify) := goodIn_app (goodIn_of _ (by decide +kernel)) ggL_law_X1_verify
set_option maxRecDepth 20000 in
theorem ggL_law_L_agree : GoodIn wsL_law wsL_agree := goodIn_ca (goodIn_ca (goodIn_ca (goodIn_r _ [278, 189, 93, 249, 279, 280, 281, 2, 282, 100, 101, 254, 255, 15, 136, 194, 195, 196, 197, 198, 199, 175, 176, 177, 226, 227, 228, 229, 106, 107, 108, 287, 288, 289, 290, 291, 292, 293, 294, 295] (by decide +kernel) (by decide +kernel)) (goodIn_sub (fun _ h => List.mem_append_left _ (List.mem_append_left _ (List.mem_append_left _ (List.mem_append_right _ h)))) (by decide +kernel))) (goodIn_sub (fun _ h => List.mem_append_right _ h) (by decide +kernel))) (goodIn_sub (fun _ h => List.mem_append_left _ (List.mem_append_right _ h)) (by decide +kernel))
set_option maxRecDepth 20000 in
theorem gL_law_L_agree : GoodIn wsL_law (va_wsS RL 118 yL_agree wsL_agree) := goodIn_app (goodIn_of _ (by decide +kernel)) ggL_law_L_agree
set_option maxRecDepth 20000 in
theorem ggL_law_X1_agree : GoodIn wsL_law wsX1_agree := goodIn_r _ [286, 150, 55, 21, 204, 205, 206, 5, 207, 114, 115, 116, 296, 297, 298, 299, 300, 301, 302, 303, 304, 305, 306, 307, 308] (by decide +kernel) (by decide +kernel)
set_option maxRecDepth 20000 in
theorem gL_law_X1_agree : GoodIn wsL_law (wsV RL 120 RX1 yX1_agree wsX1_agree) := goodIn_app (goodIn_of _ (by decide +kernel)) ggL_law_X1_agree
abbrev vwCl : List vw_C := [(RX0, TX0, 9), (RX1, TX1, 13)]
end
section
theorem dL_law_0 : decode cL_law 0 = .ok (.new 8, 3) := by decide +kernel
theorem dL_law_3 : decode cL_law 3 = .ok (.dup, 1) := by decide +kernel
theorem dL_law_4 : decode cL_law 4 = .ok (.invokespecial 53, 3) := by decide +kernel
theorem dL_law_7 : decode cL_law 7 = .ok (.astore_n 1, 1) := by decide +kernel
theorem dL_law_8 : decode cL_law 8 = .ok (.new 54, 3) := by decide +kernel
theorem dL_law_11 : decode cL_law 11 = .ok (.dup, 1) := by decide +kernel
theorem dL_law_12 : decode cL_law 12 = .ok (.invokespecial 56, 3) := by decide +kernel
theorem dL_law_15 : decode cL_law 15 = .ok (.astore_n 2, 1) := by decide +kernel
theorem dL_law_16 : decode cL_law 16 = .ok (.iconst 1, 1) := by decide +kernel
theorem dL_law_17 : decode cL_law 17 = .ok (.newarray .long, 2) := by decide +kernel
theorem dL_law_19 : decode cL_law 19 = .ok (.astore_n 3, 1) := by decide +kernel
theorem dL_law_20 : decode cL_law 20 = .ok (.iconst 0, 1) := by decide +kernel
theorem dL_law_21 : decode cL_law 21 = .ok (.istore 4, 2) := by decide +kernel
theorem dL_law_23 : decode cL_law 23 = .ok (.iload 4, 2) := by decide +kernel
theorem dL_law_25 : decode cL_law 25 = .ok (.aload_n 0, 1) := by decide +kernel
theorem dL_law_26 : decode cL_law 26 = .ok (.arraylength, 1) := by decide +kernel
theorem dL_law_27 : decode cL_law 27 = .ok (.bipush 6, 2) := by decide +kernel
theorem dL_law_29 : decode cL_law 29 = .ok (.isub, 1) := by decide +kernel
theorem dL_law_30 : decode cL_law 30 = .ok (.if_icmp .gt 995, 3) := by decide +kernel
theorem dL_law_33 : decode cL_law 33 = .ok (.aload_n 0, 1) := by decide +kernel
theorem dL_law_34 : decode cL_law 34 = .ok (.iload 4, 2) := by decide +kernel
theorem dL_law_36 : decode cL_law 36 = .ok (.iaload, 1) := by decide +kernel
theorem dL_law_37 : decode cL_law 37 = .ok (.bipush 15, 2) := by decide +kernel
theorem dL_law_39 : decode cL_law 39 = .ok (.iand, 1) := by decide +kernel
theorem dL_law_40 : decode cL_law 40 = .ok (.tableswitch 979 0 13 #[72, 129, 155, 211, 304, 364, 389, 457, 513, 549, 612, 669, 780, 911], 72) := by decide +kernel
theorem dL_law_112 : decode cL_law 112 = .ok (.aload_n 1, 1) := by decide +kernel
theorem dL_law_113 : decode cL_law 113 = .ok (.aload_n 0, 1) := by decide +kernel
theorem dL_law_114 : decode cL_law 114 = .ok (.iload 4, 2) := by decide +kernel
theorem dL_law_116 : decode cL_law 116 = .ok (.iconst 1, 1) := by decide +kernel
theorem dL_law_117 : decode cL_law 117 = .ok (.iadd, 1) := by decide +kernel
theorem dL_law_118 : decode cL_law 118 = .ok (.iaload, 1) := by decide +kernel
theorem dL_law_119 : decode cL_law 119 = .ok (.i2l, 1) := by decide +kernel
theorem dL_law_120 : decode cL_law 120 = .ok (.bipush 32, 2) := by decide +kernel
theorem dL_law_122 : decode cL_law 122 = .ok (.lshl, 1) := by decide +kernel
theorem dL_law_123 : decode cL_law 123 = .ok (.aload_n 0, 1) := by decide +kernel
theorem dL_law_124 : decode cL_law 124 = .ok (.iload 4, 2) := by decide +kernel
theorem dL_law_126 : decode cL_law 126 = .ok (.iconst 2, 1) := by decide +kernel
theorem dL_law_127 : decode cL_law 127 = .ok (.iadd, 1) := by decide +kernel
theorem dL_law_128 : decode cL_law 128 = .ok (.iaload, 1) := by decide +kernel
theorem dL_law_129 : decode cL_law 129 = .ok (.i2l, 1) := by decide +kernel
theorem dL_law_130 : decode cL_law 130 = .ok (.ldc2_w 57, 3) := by decide +kernel
theorem dL_law_133 : decode cL_law 133 = .ok (.land, 1) := by decide +kernel
theorem dL_law_134 : decode cL_law 134 = .ok (.lor, 1) := by decide +kernel
theorem dL_law_135 : decode cL_law 135 = .ok (.invokevirtual 59, 3) := by decide +kernel
theorem dL_law_138 : decode cL_law 138 = .ok (.aload_n 2, 1) := by decide +kernel
theorem dL_law_139 : decode cL_law 139 = .ok (.aload_n 0, 1) := by decide +kernel
theorem dL_law_140 : decode cL_law 140 = .ok (.iload 4, 2) := by decide +kernel
theorem dL_law_142 : decode cL_law 142 = .ok (.iconst 1, 1) := by decide +kernel
theorem dL_law_143 : decode cL_law 143 = .ok (.iadd, 1) := by decide +kernel
theorem dL_law_144 : decode cL_law 144 = .ok (.iaload, 1) := by decide +kernel
theorem dL_law_145 : decode cL_law 145 = .ok (.i2l, 1) := by decide +kernel
theorem dL_law_146 : decode cL_law 146 = .ok (.bipush 32, 2) := by decide +kernel
theorem dL_law_148 : decode cL_law 148 = .ok (.lshl, 1) := by decide +kernel
theorem dL_law_149 : decode cL_law 149 = .ok (.aload_n 0, 1) := by decide +kernel
theorem dL_law_150 : decode cL_law 150 = .ok (.iload 4, 2) := by decide +kernel
theorem dL_law_152 : decode cL_law 152 = .ok (.iconst 2, 1) := by decide +kernel
theorem dL_law_153 : decode cL_law 153 = .ok (.iadd, 1) := by decide +kernel
theorem dL_law_154 : decode cL_law 154 = .ok (.iaload, 1) := by decide +kernel
theorem dL_law_155 : decode cL_law 155 = .ok (.i2l, 1) := by decide +kernel
theorem dL_law_156 : decode cL_law 156 = .ok (.ldc2_w 57, 3) := by decide +kernel
theorem dL_law_159 : decode cL_law 159 = .ok (.land, 1) := by decide +kernel
theorem dL_law_160 : decode cL_law 160 = .ok (.lor, 1) := by decide +kernel
theorem dL_law_161 : decode cL_law 161 = .ok (.invokevirtual 63, 3) := by decide +kernel
theorem dL_law_164 : decode cL_law 164 = .ok (.if_icmp .eq 855, 3) := by decide +kernel
theorem dL_law_167 : decode cL_law 167 = .ok (.iconst 0, 1) := by decide +kernel
theorem dL_law_168 : decode cL_law 168 = .ok (.ireturn, 1) := by decide +kernel
theorem dL_law_169 : decode cL_law 169 = .ok (.aload_n 1, 1) := by decide +kernel
theorem dL_law_170 : decode cL_law 170 = .ok (.aload_n 0, 1) := by decide +kernel
theorem dL_law_171 : decode cL_law 171 = .ok (.iload 4, 2) := by decide +kernel
theorem dL_law_173 : decode cL_law 173 = .ok (.iconst 1, 1) := by decide +kernel
theorem dL_law_174 : decode cL_law 174 = .ok (.iadd, 1) := by decide +kernel
theorem dL_law_175 : decode cL_law 175 = .ok (.iaload, 1) := by decide +kernel
theorem dL_law_176 : decode cL_law 176 = .ok (.invokevirtual 64, 3) := by decide +kernel
theorem dL_law_179 : decode cL_law 179 = .ok (.aload_n 2, 1) := by decide +kernel
theorem dL_law_180 : decode cL_law 180 = .ok (.aload_n 0, 1) := by decide +kernel
theorem dL_law_181 : decode cL_law 181 = .ok (.iload 4, 2) := by decide +kernel
theorem dL_law_183 : decode cL_law 183 = .ok (.iconst 1, 1) := by decide +kernel
theorem dL_law_184 : decode cL_law 184 = .ok (.iadd, 1) := by decide +kernel
theorem dL_law_185 : decode cL_law 185 = .ok (.iaload, 1) := by decide +kernel
theorem dL_law_186 : decode cL_law 186 = .ok (.invokevirtual 68, 3) := by decide +kernel
theorem dL_law_189 : decode cL_law 189 = .ok (.lcmp, 1) := by decide +kernel
theorem dL_law_190 : decode cL_law 190 = .ok (.ifCond .eq 829, 3) := by decide +kernel
theorem dL_law_193 : decode cL_law 193 = .ok (.iconst 0, 1) := by decide +kernel
theorem dL_law_194 : decode cL_law 194 = .ok (.ireturn, 1) := by decide +kernel
theorem dL_law_195 : decode cL_law 195 = .ok (.aload_n 1, 1) := by decide +kernel
theorem dL_law_196 : decode cL_law 196 = .ok (.aload_n 0, 1) := by decide +kernel
theorem dL_law_197 : decode cL_law 197 = .ok (.iload 4, 2) := by decide +kernel
theorem dL_law_199 : decode cL_law 199 = .ok (.iconst 1, 1) := by decide +kernel
theorem dL_law_200 : decode cL_law 200 = .ok (.iadd, 1) := by decide +kernel
theorem dL_law_201 : decode cL_law 201 = .ok (.iaload, 1) := by decide +kernel
theorem dL_law_202 : decode cL_law 202 = .ok (.aload_n 3, 1) := by decide +kernel
theorem dL_law_203 : decode cL_law 203 = .ok (.invokestatic 69, 3) := by decide +kernel
theorem dL_law_206 : decode cL_law 206 = .ok (.istore 5, 2) := by decide +kernel
theorem dL_law_208 : decode cL_law 208 = .ok (.aload_n 2, 1) := by decide +kernel
theorem dL_law_209 : decode cL_law 209 = .ok (.aload_n 0, 1) := by decide +kernel
theorem dL_law_210 : decode cL_law 210 = .ok (.iload 4, 2) := by decide +kernel
theorem dL_law_212 : decode cL_law 212 = .ok (.iconst 1, 1) := by decide +kernel
theorem dL_law_213 : decode cL_law 213 = .ok (.iadd, 1) := by decide +kernel
theorem dL_law_214 : decode cL_law 214 = .ok (.iaload, 1) := by decide +kernel
theorem dL_law_215 : decode cL_law 215 = .ok (.invokevirtual 74, 3) := by decide +kernel
theorem dL_law_218 : decode cL_law 218 = .ok (.istore 6, 2) := by decide +kernel
theorem dL_law_220 : decode cL_law 220 = .ok (.aload_n 2, 1) := by decide +kernel
theorem dL_law_221 : decode cL_law 221 = .ok (.invokevirtual 75, 3) := by decide +kernel
theorem dL_law_224 : decode cL_law 224 = .ok (.iload 5, 2) := by decide +kernel
theorem dL_law_226 : decode cL_law 226 = .ok (.if_icmp .eq 5, 3) := by decide +kernel
theorem dL_law_229 : decode cL_law 229 = .ok (.iconst 0, 1) := by decide +kernel
theorem dL_law_230 : decode cL_law 230 = .ok (.ireturn, 1) := by decide +kernel
theorem dL_law_231 : decode cL_law 231 = .ok (.iload 5, 2) := by decide +kernel
theorem dL_law_233 : decode cL_law 233 = .ok (.ifCond .ne 15, 3) := by decide +kernel
theorem dL_law_236 : decode cL_law 236 = .ok (.aload_n 3, 1) := by decide +kernel
theorem dL_law_237 : decode cL_law 237 = .ok (.iconst 0, 1) := by decide +kernel
theorem dL_law_238 : decode cL_law 238 = .ok (.laload, 1) := by decide +kernel
theorem dL_law_239 : decode cL_law 239 = .ok (.iload 6, 2) := by decide +kernel
theorem dL_law_241 : decode cL_law 241 = .ok (.i2l, 1) := by decide +kernel
theorem dL_law_242 : decode cL_law 242 = .ok (.lcmp, 1) := by decide +kernel
theorem dL_law_243 : decode cL_law 243 = .ok (.ifCond .eq 5, 3) := by decide +kernel
theorem dL_law_246 : decode cL_law 246 = .ok (.iconst 0, 1) := by decide +kernel
theorem dL_law_247 : decode cL_law 247 = .ok (.ireturn, 1) := by decide +kernel
theorem dL_law_248 : decode cL_law 248 = .ok (.goto 771, 3) := by decide +kernel
theorem dL_law_251 : decode cL_law 251 = .ok (.aload_n 1, 1) := by decide +kernel
theorem dL_law_252 : decode cL_law 252 = .ok (.aload_n 0, 1) := by decide +kernel
theorem dL_law_253 : decode cL_law 253 = .ok (.iload 4, 2) := by decide +kernel
theorem dL_law_255 : decode cL_law 255 = .ok (.iconst 1, 1) := by decide +kernel
theorem dL_law_256 : decode cL_law 256 = .ok (.iadd, 1) := by decide +kernel
theorem dL_law_257 : decode cL_law 257 = .ok (.iaload, 1) := by decide +kernel
theorem dL_law_258 : decode cL_law 258 = .ok (.aload_n 0, 1) := by decide +kernel
theorem dL_law_259 : decode cL_law 259 = .ok (.iload 4, 2) := by decide +kernel
theorem dL_law_261 : decode cL_law 261 = .ok (.iconst 2, 1) := by decide +kernel
theorem dL_law_262 : decode cL_law 262 = .ok (.iadd, 1) := by decide +kernel
theorem dL_law_263 : decode cL_law 263 = .ok (.iaload, 1) := by decide +kernel
theorem dL_law_264 : decode cL_law 264 = .ok (.aload_n 0, 1) := by decide +kernel
theorem dL_law_265 : decode cL_law 265 = .ok (.iload 4, 2) := by decide +kernel
theorem dL_law_267 : decode cL_law 267 = .ok (.iconst 3, 1) := by decide +kernel
theorem dL_law_268 : decode cL_law 268 = .ok (.iadd, 1) := by decide +kernel
theorem dL_law_269 : decode cL_law 269 = .ok (.iaload, 1) := by decide +kernel
theorem dL_law_270 : decode cL_law 270 = .ok (.i2l, 1) := by decide +kernel
theorem dL_law_271 : decode cL_law 271 = .ok (.bipush 32, 2) := by decide +kernel
theorem dL_law_273 : decode cL_law 273 = .ok (.lshl, 1) := by decide +kernel
theorem dL_law_274 : decode cL_law 274 = .ok (.aload_n 0, 1) := by decide +kernel
theorem dL_law_275 : decode cL_law 275 = .ok (.iload 4, 2) := by decide +kernel
theorem dL_law_277 : decode cL_law 277 = .ok (.iconst 4, 1) := by decide +kernel
theorem dL_law_278 : decode cL_law 278 = .ok (.iadd, 1) := by decide +kernel
theorem dL_law_279 : decode cL_law 279 = .ok (.iaload, 1) := by decide +kernel
theorem dL_law_280 : decode cL_law 280 = .ok (.i2l, 1) := by decide +kernel
theorem dL_law_281 : decode cL_law 281 = .ok (.ldc2_w 57, 3) := by decide +kernel
theorem dL_law_284 : decode cL_law 284 = .ok (.land, 1) := by decide +kernel
theorem dL_law_285 : decode cL_law 285 = .ok (.lor, 1) := by decide +kernel
theorem dL_law_286 : decode cL_law 286 = .ok (.aload_n 0, 1) := by decide +kernel
theorem dL_law_287 : decode cL_law 287 = .ok (.iload 4, 2) := by decide +kernel
theorem dL_law_289 : decode cL_law 289 = .ok (.iconst 5, 1) := by decide +kernel
theorem dL_law_290 : decode cL_law 290 = .ok (.iadd, 1) := by decide +kernel
theorem dL_law_291 : decode cL_law 291 = .ok (.iaload, 1) := by decide +kernel
theorem dL_law_292 : decode cL_law 292 = .ok (.invokevirtual 79, 3) := by decide +kernel
theorem dL_law_295 : decode cL_law 295 = .ok (.aload_n 2, 1) := by decide +kernel
theorem dL_law_296 : decode cL_law 296 = .ok (.aload_n 0, 1) := by decide +kernel
theorem dL_law_297 : decode cL_law 297 = .ok (.iload 4, 2) := by decide +kernel
theorem dL_law_299 : decode cL_law 299 = .ok (.iconst 1, 1) := by decide +kernel
theorem dL_law_300 : decode cL_law 300 = .ok (.iadd, 1) := by decide +kernel
theorem dL_law_301 : decode cL_law 301 = .ok (.iaload, 1) := by decide +kernel
theorem dL_law_302 : decode cL_law 302 = .ok (.aload_n 0, 1) := by decide +kernel
theorem dL_law_303 : decode cL_law 303 = .ok (.iload 4, 2) := by decide +kernel
theorem dL_law_305 : decode cL_law 305 = .ok (.iconst 2, 1) := by decide +kernel
theorem dL_law_306 : decode cL_law 306 = .ok (.iadd, 1) := by decide +kernel
theorem dL_law_307 : decode cL_law 307 = .ok (.iaload, 1) := by decide +kernel
theorem dL_law_308 : decode cL_law 308 = .ok (.aload_n 0, 1) := by decide +kernel
theorem dL_law_309 : decode cL_law 309 = .ok (.iload 4, 2) := by decide +kernel
theorem dL_law_311 : decode cL_law 311 = .ok (.iconst 3, 1) := by decide +kernel
theorem dL_law_312 : decode cL_law 312 = .ok (.iadd, 1) := by decide +kernel
theorem dL_law_313 : decode cL_law 313 = .ok (.iaload, 1) := by decide +kernel
theorem dL_law_314 : decode cL_law 314 = .ok (.i2l, 1) := by decide +kernel
theorem dL_law_315 : decode cL_law 315 = .ok (.bipush 32, 2) := by decide +kernel
theorem dL_law_317 : decode cL_law 317 = .ok (.lshl, 1) := by decide +kernel
theorem dL_law_318 : decode cL_law 318 = .ok (.aload_n 0, 1) := by decide +kernel
theorem dL_law_319 : decode cL_law 319 = .ok (.iload 4, 2) := by decide +kernel
theorem dL_law_321 : decode cL_law 321 = .ok (.iconst 4, 1) := by decide +kernel
theorem dL_law_322 : decode cL_law 322 = .ok (.iadd, 1) := by decide +kernel
theorem dL_law_323 : decode cL_law 323 = .ok (.iaload, 1) := by decide +kernel
theorem dL_law_324 : decode cL_law 324 = .ok (.i2l, 1) := by decide +kernel
theorem dL_law_325 : decode cL_law 325 = .ok (.ldc2_w 57, 3) := by decide +kernel
theorem dL_law_328 : decode cL_law 328 = .ok (.land, 1) := by decide +kernel
theorem dL_law_329 : decode cL_law 329 = .ok (.lor, 1) := by decide +kernel
theorem dL_law_330 : decode cL_law 330 = .ok (.aload_n 0, 1) := by decide +kernel
theorem dL_law_331 : decode cL_law 331 = .ok (.iload 4, 2) := by decide +kernel
theorem dL_law_333 : decode cL_law 333 = .ok (.iconst 5, 1) := by decide +kernel
theorem dL_law_334 : decode cL_law 334 = .ok (.iadd, 1) := by decide +kernel
theorem dL_law_335 : decode cL_law 335 = .ok (.iaload, 1) := by decide +kernel
theorem dL_law_336 : decode cL_law 336 = .ok (.invokevirtual 83, 3) := by decide +kernel
theorem dL_law_339 : decode cL_law 339 = .ok (.if_icmp .eq 680, 3) := by decide +kernel
theorem dL_law_342 : decode cL_law 342 = .ok (.iconst 0, 1) := by decide +kernel
theorem dL_law_343 : decode cL_law 343 = .ok (.ireturn, 1) := by decide +kernel
theorem dL_law_344 : decode cL_law 344 = .ok (.aload_n 1, 1) := by decide +kernel
theorem dL_law_345 : decode cL_law 345 = .ok (.aload_n 0, 1) := by decide +kernel
theorem dL_law_346 : decode cL_law 346 = .ok (.iload 4, 2) := by decide +kernel
theorem dL_law_348 : decode cL_law 348 = .ok (.iconst 1, 1) := by decide +kernel
theorem dL_law_349 : decode cL_law 349 = .ok (.iadd, 1) := by decide +kernel
theorem dL_law_350 : decode cL_law 350 = .ok (.iaload, 1) := by decide +kernel
theorem dL_law_351 : decode cL_law 351 = .ok (.aload_n 0, 1) := by decide +kernel
theorem dL_law_352 : decode cL_law 352 = .ok (.iload 4, 2) := by decide +kernel
theorem dL_law_354 : decode cL_law 354 = .ok (.iconst 2, 1) := by decide +kernel
theorem dL_law_355 : decode cL_law 355 = .ok (.iadd, 1) := by decide +kernel
theorem dL_law_356 : decode cL_law 356 = .ok (.iaload, 1) := by decide +kernel
theorem dL_law_357 : decode cL_law 357 = .ok (.aload_n 0, 1) := by decide +kernel
theorem dL_law_358 : decode cL_law 358 = .ok (.iload 4, 2) := by decide +kernel
theorem dL_law_360 : decode cL_law 360 = .ok (.iconst 3, 1) := by decide +kernel
theorem dL_law_361 : decode cL_law 361 = .ok (.iadd, 1) := by decide +kernel
theorem dL_law_362 : decode cL_law 362 = .ok (.iaload, 1) := by decide +kernel
theorem dL_law_363 : decode cL_law 363 = .ok (.invokestatic 84, 3) := by decide +kernel
theorem dL_law_366 : decode cL_law 366 = .ok (.istore 5, 2) := by decide +kernel
theorem dL_law_368 : decode cL_law 368 = .ok (.aload_n 2, 1) := by decide +kernel
theorem dL_law_369 : decode cL_law 369 = .ok (.aload_n 0, 1) := by decide +kernel
theorem dL_law_370 : decode cL_law 370 = .ok (.iload 4, 2) := by decide +kernel
theorem dL_law_372 : decode cL_law 372 = .ok (.iconst 1, 1) := by decide +kernel
theorem dL_law_373 : decode cL_law 373 = .ok (.iadd, 1) := by decide +kernel
theorem dL_law_374 : decode cL_law 374 = .ok (.iaload, 1) := by decide +kernel
theorem dL_law_375 : decode cL_law 375 = .ok (.aload_n 0, 1) := by decide +kernel
theorem dL_law_376 : decode cL_law 376 = .ok (.iload 4, 2) := by decide +kernel
theorem dL_law_378 : decode cL_law 378 = .ok (.iconst 2, 1) := by decide +kernel
theorem dL_law_379 : decode cL_law 379 = .ok (.iadd, 1) := by decide +kernel
theorem dL_law_380 : decode cL_law 380 = .ok (.iaload, 1) := by decide +kernel
theorem dL_law_381 : decode cL_law 381 = .ok (.aload_n 0, 1) := by decide +kernel
theorem dL_law_382 : decode cL_law 382 = .ok (.iload 4, 2) := by decide +kernel
theorem dL_law_384 : decode cL_law 384 = .ok (.iconst 3, 1) := by decide +kernel
theorem dL_law_385 : decode cL_law 385 = .ok (.iadd, 1) := by decide +kernel
theorem dL_law_386 : decode cL_law 386 = .ok (.iaload, 1) := by decide +kernel
theorem dL_law_387 : decode cL_law 387 = .ok (.invokevirtual 87, 3) := by decide +kernel
theorem dL_law_390 : decode cL_law 390 = .ok (.aload_n 2, 1) := by decide +kernel
theorem dL_law_391 : decode cL_law 391 = .ok (.invokevirtual 75, 3) := by decide +kernel
theorem dL_law_394 : decode cL_law 394 = .ok (.iload 5, 2) := by decide +kernel
theorem dL_law_396 : decode cL_law 396 = .ok (.if_icmp .eq 5, 3) := by decide +kernel
theorem dL_law_399 : decode cL_law 399 = .ok (.iconst 0, 1) := by decide +kernel
theorem dL_law_400 : decode cL_law 400 = .ok (.ireturn, 1) := by decide +kernel
theorem dL_law_401 : decode cL_law 401 = .ok (.goto 618, 3) := by decide +kernel
theorem dL_law_404 : decode cL_law 404 = .ok (.aload_n 1, 1) := by decide +kernel
theorem dL_law_405 : decode cL_law 405 = .ok (.aload_n 0, 1) := by decide +kernel
theorem dL_law_406 : decode cL_law 406 = .ok (.iload 4, 2) := by decide +kernel
theorem dL_law_408 : decode cL_law 408 = .ok (.iconst 1, 1) := by decide +kernel
theorem dL_law_409 : decode cL_law 409 = .ok (.iadd, 1) := by decide +kernel
theorem dL_law_410 : decode cL_law 410 = .ok (.iaload, 1) := by decide +kernel
theorem dL_law_411 : decode cL_law 411 = .ok (.invokevirtual 88, 3) := by decide +kernel
theorem dL_law_414 : decode cL_law 414 = .ok (.aload_n 2, 1) := by decide +kernel
theorem dL_law_415 : decode cL_law 415 = .ok (.aload_n 0, 1) := by decide +kernel
theorem dL_law_416 : decode cL_law 416 = .ok (.iload 4, 2) := by decide +kernel
theorem dL_law_418 : decode cL_law 418 = .ok (.iconst 1, 1) := by decide +kernel
theorem dL_law_419 : decode cL_law 419 = .ok (.iadd, 1) := by decide +kernel
theorem dL_law_420 : decode cL_law 420 = .ok (.iaload, 1) := by decide +kernel
theorem dL_law_421 : decode cL_law 421 = .ok (.invokevirtual 91, 3) := by decide +kernel
theorem dL_law_424 : decode cL_law 424 = .ok (.if_icmp .eq 595, 3) := by decide +kernel
theorem dL_law_427 : decode cL_law 427 = .ok (.iconst 0, 1) := by decide +kernel
theorem dL_law_428 : decode cL_law 428 = .ok (.ireturn, 1) := by decide +kernel
theorem dL_law_429 : decode cL_law 429 = .ok (.aload_n 1, 1) := by decide +kernel
theorem dL_law_430 : decode cL_law 430 = .ok (.aload_n 0, 1) := by decide +kernel
theorem dL_law_431 : decode cL_law 431 = .ok (.iload 4, 2) := by decide +kernel
theorem dL_law_433 : decode cL_law 433 = .ok (.iconst 1, 1) := by decide +kernel
theorem dL_law_434 : decode cL_law 434 = .ok (.iadd, 1) := by decide +kernel
theorem dL_law_435 : decode cL_law 435 = .ok (.iaload, 1) := by decide +kernel
theorem dL_law_436 : decode cL_law 436 = .ok (.aload_n 0, 1) := by decide +kernel
theorem dL_law_437 : decode cL_law 437 = .ok (.iload 4, 2) := by decide +kernel
theorem dL_law_439 : decode cL_law 439 = .ok (.iconst 2, 1) := by decide +kernel
theorem dL_law_440 : decode cL_law 440 = .ok (.iadd, 1) := by decide +kernel
theorem dL_law_441 : decode cL_law 441 = .ok (.iaload, 1) := by decide +kernel
theorem dL_law_442 : decode cL_law 442 = .ok (.aload_n 3, 1) := by decide +kernel
theorem dL_law_443 : decode cL_law 443 = .ok (.invokestatic 92, 3) := by decide +kernel
theorem dL_law_446 : decode cL_law 446 = .ok (.istore 5, 2) := by decide +kernel
theorem dL_law_448 : decode cL_law 448 = .ok (.aload_n 2, 1) := by decide +kernel
theorem dL_law_449 : decode cL_law 449 = .ok (.aload_n 0, 1) := by decide +kernel
theorem dL_law_450 : decode cL_law 450 = .ok (.iload 4, 2) := by decide +kernel
theorem dL_law_452 : decode cL_law 452 = .ok (.iconst 1, 1) := by decide +kernel
theorem dL_law_453 : decode cL_law 453 = .ok (.iadd, 1) := by decide +kernel
theorem dL_law_454 : decode cL_law 454 = .ok (.iaload, 1) := by decide +kernel
theorem dL_law_455 : decode cL_law 455 = .ok (.aload_n 0, 1) := by decide +kernel
theorem dL_law_456 : decode cL_law 456 = .ok (.iload 4, 2) := by decide +kernel
theorem dL_law_458 : decode cL_law 458 = .ok (.iconst 2, 1) := by decide +kernel
theorem dL_law_459 : decode cL_law 459 = .ok (.iadd, 1) := by decide +kernel
theorem dL_law_460 : decode cL_law 460 = .ok (.iaload, 1) := by decide +kernel
theorem dL_law_461 : decode cL_law 461 = .ok (.invokevirtual 95, 3) := by decide +kernel
theorem dL_law_464 : decode cL_law 464 = .ok (.istore 6, 2) := by decide +kernel
theorem dL_law_466 : decode cL_law 466 = .ok (.aload_n 2, 1) := by decide +kernel
theorem dL_law_467 : decode cL_law 467 = .ok (.invokevirtual 75, 3) := by decide +kernel
theorem dL_law_470 : decode cL_law 470 = .ok (.iload 5, 2) := by decide +kernel
theorem dL_law_472 : decode cL_law 472 = .ok (.if_icmp .eq 5, 3) := by decide +kernel
theorem dL_law_475 : decode cL_law 475 = .ok (.iconst 0, 1) := by decide +kernel
theorem dL_law_476 : decode cL_law 476 = .ok (.ireturn, 1) := by decide +kernel
theorem dL_law_477 : decode cL_law 477 = .ok (.iload 5, 2) := by decide +kernel
theorem dL_law_479 : decode cL_law 479 = .ok (.ifCond .ne 15, 3) := by decide +kernel
theorem dL_law_482 : decode cL_law 482 = .ok (.aload_n 3, 1) := by decide +kernel
theorem dL_law_483 : decode cL_law 483 = .ok (.iconst 0, 1) := by decide +kernel
theorem dL_law_484 : decode cL_law 484 = .ok (.laload, 1) := by decide +kernel
theorem dL_law_485 : decode cL_law 485 = .ok (.iload 6, 2) := by decide +kernel
theorem dL_law_487 : decode cL_law 487 = .ok (.i2l, 1) := by decide +kernel
theorem dL_law_488 : decode cL_law 488 = .ok (.lcmp, 1) := by decide +kernel
theorem dL_law_489 : decode cL_law 489 = .ok (.ifCond .eq 5, 3) := by decide +kernel
theorem dL_law_492 : decode cL_law 492 = .ok (.iconst 0, 1) := by decide +kernel
theorem dL_law_493 : decode cL_law 493 = .ok (.ireturn, 1) := by decide +kernel
theorem dL_law_494 : decode cL_law 494 = .ok (.goto 525, 3) := by decide +kernel
theorem dL_law_497 : decode cL_law 497 = .ok (.aload_n 1, 1) := by decide +kernel
theorem dL_law_498 : decode cL_law 498 = .ok (.aload_n 0, 1) := by decide +kernel
theorem dL_law_499 : decode cL_law 499 = .ok (.iload 4, 2) := by decide +kernel
theorem dL_law_501 : decode cL_law 501 = .ok (.iconst 1, 1) := by decide +kernel
theorem dL_law_502 : decode cL_law 502 = .ok (.iadd, 1) := by decide +kernel
theorem dL_law_503 : decode cL_law 503 = .ok (.iaload, 1) := by decide +kernel
theorem dL_law_504 : decode cL_law 504 = .ok (.aload_n 3, 1) := by decide +kernel
theorem dL_law_505 : decode cL_law 505 = .ok (.invokestatic 96, 3) := by decide +kernel
theorem dL_law_508 : decode cL_law 508 = .ok (.istore 5, 2) := by decide +kernel
theorem dL_law_510 : decode cL_law 510 = .ok (.aload_n 2, 1) := by decide +kernel
theorem dL_law_511 : decode cL_law 511 = .ok (.aload_n 0, 1) := by decide +kernel
theorem dL_law_512 : decode cL_law 512 = .ok (.iload 4, 2) := by decide +kernel
theorem dL_law_514 : decode cL_law 514 = .ok (.iconst 1, 1) := by decide +kernel
theorem dL_law_515 : decode cL_law 515 = .ok (.iadd, 1) := by decide +kernel
theorem dL_law_516 : decode cL_law 516 = .ok (.iaload, 1) := by decide +kernel
theorem dL_law_517 : decode cL_law 517 = .ok (.invokevirtual 98, 3) := by decide +kernel
theorem dL_law_520 : decode cL_law 520 = .ok (.istore 6, 2) := by decide +kernel
theorem dL_law_522 : decode cL_law 522 = .ok (.aload_n 2, 1) := by decide +kernel
theorem dL_law_523 : decode cL_law 523 = .ok (.invokevirtual 75, 3) := by decide +kernel
theorem dL_law_526 : decode cL_law 526 = .ok (.iload 5, 2) := by decide +kernel
theorem dL_law_528 : decode cL_law 528 = .ok (.if_icmp .eq 5, 3) := by decide +kernel
theorem dL_law_531 : decode cL_law 531 = .ok (.iconst 0, 1) := by decide +kernel
theorem dL_law_532 : decode cL_law 532 = .ok (.ireturn, 1) := by decide +kernel
theorem dL_law_533 : decode cL_law 533 = .ok (.iload 5, 2) := by decide +kernel
theorem dL_law_535 : decode cL_law 535 = .ok (.ifCond .ne 15, 3) := by decide +kernel
theorem dL_law_538 : decode cL_law 538 = .ok (.aload_n 3, 1) := by decide +kernel
theorem dL_law_539 : decode cL_law 539 = .ok (.iconst 0, 1) := by decide +kernel
theorem dL_law_540 : decode cL_law 540 = .ok (.laload, 1) := by decide +kernel
theorem dL_law_541 : decode cL_law 541 = .ok (.iload 6, 2) := by decide +kernel
theorem dL_law_543 : decode cL_law 543 = .ok (.i2l, 1) := by decide +kernel
theorem dL_law_544 : decode cL_law 544 = .ok (.lcmp, 1) := by decide +kernel
theorem dL_law_545 : decode cL_law 545 = .ok (.ifCond .eq 5, 3) := by decide +kernel
theorem dL_law_548 : decode cL_law 548 = .ok (.iconst 0, 1) := by decide +kernel
theorem dL_law_549 : decode cL_law 549 = .ok (.ireturn, 1) := by decide +kernel
theorem dL_law_550 : decode cL_law 550 = .ok (.goto 469, 3) := by decide +kernel
theorem dL_law_553 : decode cL_law 553 = .ok (.aload_n 1, 1) := by decide +kernel
theorem dL_law_554 : decode cL_law 554 = .ok (.aload_n 0, 1) := by decide +kernel
theorem dL_law_555 : decode cL_law 555 = .ok (.iload 4, 2) := by decide +kernel
theorem dL_law_557 : decode cL_law 557 = .ok (.iconst 1, 1) := by decide +kernel
theorem dL_law_558 : decode cL_law 558 = .ok (.iadd, 1) := by decide +kernel
theorem dL_law_559 : decode cL_law 559 = .ok (.iaload, 1) := by decide +kernel
theorem dL_law_560 : decode cL_law 560 = .ok (.invokestatic 99, 3) := by decide +kernel
theorem dL_law_563 : decode cL_law 563 = .ok (.istore 5, 2) := by decide +kernel
theorem dL_law_565 : decode cL_law 565 = .ok (.aload_n 2, 1) := by decide +kernel
theorem dL_law_566 : decode cL_law 566 = .ok (.aload_n 0, 1) := by decide +kernel
theorem dL_law_567 : decode cL_law 567 = .ok (.iload 4, 2) := by decide +kernel
theorem dL_law_569 : decode cL_law 569 = .ok (.iconst 1, 1) := by decide +kernel
theorem dL_law_570 : decode cL_law 570 = .ok (.iadd, 1) := by decide +kernel
theorem dL_law_571 : decode cL_law 571 = .ok (.iaload, 1) := by decide +kernel
theorem dL_law_572 : decode cL_law 572 = .ok (.invokevirtual 102, 3) := by decide +kernel
theorem dL_law_575 : decode cL_law 575 = .ok (.aload_n 2, 1) := by decide +kernel
theorem dL_law_576 : decode cL_law 576 = .ok (.invokevirtual 75, 3) := by decide +kernel
theorem dL_law_579 : decode cL_law 579 = .ok (.iload 5, 2) := by decide +kernel
theorem dL_law_581 : decode cL_law 581 = .ok (.if_icmp .eq 5, 3) := by decide +kernel
theorem dL_law_584 : decode cL_law 584 = .ok (.iconst 0, 1) := by decide +kernel
theorem dL_law_585 : decode cL_law 585 = .ok (.ireturn, 1) := by decide +kernel
theorem dL_law_586 : decode cL_law 586 = .ok (.goto 433, 3) := by decide +kernel
theorem dL_law_589 : decode cL_law 589 = .ok (.aload_n 1, 1) := by decide +kernel
theorem dL_law_590 : decode cL_law 590 = .ok (.aload_n 0, 1) := by decide +kernel
theorem dL_law_591 : decode cL_law 591 = .ok (.iload 4, 2) := by decide +kernel
theorem dL_law_593 : decode cL_law 593 = .ok (.iconst 1, 1) := by decide +kernel
theorem dL_law_594 : decode cL_law 594 = .ok (.iadd, 1) := by decide +kernel
theorem dL_law_595 : decode cL_law 595 = .ok (.iaload, 1) := by decide +kernel
theorem dL_law_596 : decode cL_law 596 = .ok (.aload_n 3, 1) := by decide +kernel
theorem dL_law_597 : decode cL_law 597 = .ok (.invokestatic 103, 3) := by decide +kernel
theorem dL_law_600 : decode cL_law 600 = .ok (.istore 5, 2) := by decide +kernel
theorem dL_law_602 : decode cL_law 602 = .ok (.aload_n 2, 1) := by decide +kernel
theorem dL_law_603 : decode cL_law 603 = .ok (.aload_n 0, 1) := by decide +kernel
theorem dL_law_604 : decode cL_law 604 = .ok (.iload 4, 2) := by decide +kernel
theorem dL_law_606 : decode cL_law 606 = .ok (.iconst 1, 1) := by decide +kernel
theorem dL_law_607 : decode cL_law 607 = .ok (.iadd, 1) := by decide +kernel
theorem dL_law_608 : decode cL_law 608 = .ok (.iaload, 1) := by decide +kernel
theorem dL_law_609 : decode cL_law 609 = .ok (.invokevirtual 105, 3) := by decide +kernel
theorem dL_law_612 : decode cL_law 612 = .ok (.istore 6, 2) := by decide +kernel
theorem dL_law_614 : decode cL_law 614 = .ok (.aload_n 2, 1) := by decide +kernel
theorem dL_law_615 : decode cL_law 615 = .ok (.invokevirtual 75, 3) := by decide +kernel
theorem dL_law_618 : decode cL_law 618 = .ok (.iload 5, 2) := by decide +kernel
theorem dL_law_620 : decode cL_law 620 = .ok (.if_icmp .eq 5, 3) := by decide +kernel
theorem dL_law_623 : decode cL_law 623 = .ok (.iconst 0, 1) := by decide +kernel
theorem dL_law_624 : decode cL_law 624 = .ok (.ireturn, 1) := by decide +kernel
theorem dL_law_625 : decode cL_law 625 = .ok (.iload 5, 2) := by decide +kernel
theorem dL_law_627 : decode cL_law 627 = .ok (.ifCond .ne 22, 3) := by decide +kernel
theorem dL_law_630 : decode cL_law 630 = .ok (.aload_n 3, 1) := by decide +kernel
theorem dL_law_631 : decode cL_law 631 = .ok (.iconst 0, 1) := by decide +kernel
theorem dL_law_632 : decode cL_law 632 = .ok (.laload, 1) := by decide +kernel
theorem dL_law_633 : decode cL_law 633 = .ok (.iload 6, 2) := by decide +kernel
theorem dL_law_635 : decode cL_law 635 = .ok (.ifCond .eq 7, 3) := by decide +kernel
theorem dL_law_638 : decode cL_law 638 = .ok (.lconst 1, 1) := by decide +kernel
theorem dL_law_639 : decode cL_law 639 = .ok (.goto 4, 3) := by decide +kernel
theorem dL_law_642 : decode cL_law 642 = .ok (.lconst 0, 1) := by decide +kernel
theorem dL_law_643 : decode cL_law 643 = .ok (.lcmp, 1) := by decide +kernel
theorem dL_law_644 : decode cL_law 644 = .ok (.ifCond .eq 5, 3) := by decide +kernel
theorem dL_law_647 : decode cL_law 647 = .ok (.iconst 0, 1) := by decide +kernel
theorem dL_law_648 : decode cL_law 648 = .ok (.ireturn, 1) := by decide +kernel
theorem dL_law_649 : decode cL_law 649 = .ok (.goto 370, 3) := by decide +kernel
theorem dL_law_652 : decode cL_law 652 = .ok (.aload_n 1, 1) := by decide +kernel
theorem dL_law_653 : decode cL_law 653 = .ok (.aload_n 0, 1) := by decide +kernel
theorem dL_law_654 : decode cL_law 654 = .ok (.iload 4, 2) := by decide +kernel
theorem dL_law_656 : decode cL_law 656 = .ok (.iconst 1, 1) := by decide +kernel
theorem dL_law_657 : decode cL_law 657 = .ok (.iadd, 1) := by decide +kernel
theorem dL_law_658 : decode cL_law 658 = .ok (.iaload, 1) := by decide +kernel
theorem dL_law_659 : decode cL_law 659 = .ok (.i2l, 1) := by decide +kernel
theorem dL_law_660 : decode cL_law 660 = .ok (.bipush 32, 2) := by decide +kernel
theorem dL_law_662 : decode cL_law 662 = .ok (.lshl, 1) := by decide +kernel
theorem dL_law_663 : decode cL_law 663 = .ok (.aload_n 0, 1) := by decide +kernel
theorem dL_law_664 : decode cL_law 664 = .ok (.iload 4, 2) := by decide +kernel
theorem dL_law_666 : decode cL_law 666 = .ok (.iconst 2, 1) := by decide +kernel
theorem dL_law_667 : decode cL_law 667 = .ok (.iadd, 1) := by decide +kernel
theorem dL_law_668 : decode cL_law 668 = .ok (.iaload, 1) := by decide +kernel
theorem dL_law_669 : decode cL_law 669 = .ok (.i2l, 1) := by decide +kernel
theorem dL_law_670 : decode cL_law 670 = .ok (.ldc2_w 57, 3) := by decide +kernel
theorem dL_law_673 : decode cL_law 673 = .ok (.land, 1) := by decide +kernel
theorem dL_law_674 : decode cL_law 674 = .ok (.lor, 1) := by decide +kernel
theorem dL_law_675 : decode cL_law 675 = .ok (.invokevirtual 106, 3) := by decide +kernel
theorem dL_law_678 : decode cL_law 678 = .ok (.aload_n 2, 1) := by decide +kernel
theorem dL_law_679 : decode cL_law 679 = .ok (.aload_n 0, 1) := by decide +kernel
theorem dL_law_680 : decode cL_law 680 = .ok (.iload 4, 2) := by decide +kernel
theorem dL_law_682 : decode cL_law 682 = .ok (.iconst 1, 1) := by decide +kernel
theorem dL_law_683 : decode cL_law 683 = .ok (.iadd, 1) := by decide +kernel
theorem dL_law_684 : decode cL_law 684 = .ok (.iaload, 1) := by decide +kernel
theorem dL_law_685 : decode cL_law 685 = .ok (.i2l, 1) := by decide +kernel
theorem dL_law_686 : decode cL_law 686 = .ok (.bipush 32, 2) := by decide +kernel
theorem dL_law_688 : decode cL_law 688 = .ok (.lshl, 1) := by decide +kernel
theorem dL_law_689 : decode cL_law 689 = .ok (.aload_n 0, 1) := by decide +kernel
theorem dL_law_690 : decode cL_law 690 = .ok (.iload 4, 2) := by decide +kernel
theorem dL_law_692 : decode cL_law 692 = .ok (.iconst 2, 1) := by decide +kernel
theorem dL_law_693 : decode cL_law 693 = .ok (.iadd, 1) := by decide +kernel
theorem dL_law_694 : decode cL_law 694 = .ok (.iaload, 1) := by decide +kernel
theorem dL_law_695 : decode cL_law 695 = .ok (.i2l, 1) := by decide +kernel
theorem dL_law_696 : decode cL_law 696 = .ok (.ldc2_w 57, 3) := by decide +kernel
theorem dL_law_699 : decode cL_law 699 = .ok (.land, 1) := by decide +kernel
theorem dL_law_700 : decode cL_law 700 = .ok (.lor, 1) := by decide +kernel
theorem dL_law_701 : decode cL_law 701 = .ok (.invokevirtual 109, 3) := by decide +kernel
theorem dL_law_704 : decode cL_law 704 = .ok (.if_icmp .eq 315, 3) := by decide +kernel
theorem dL_law_707 : decode cL_law 707 = .ok (.iconst 0, 1) := by decide +kernel
theorem dL_law_708 : decode cL_law 708 = .ok (.ireturn, 1) := by decide +kernel
theorem dL_law_709 : decode cL_law 709 = .ok (.aload_n 1, 1) := by decide +kernel
theorem dL_law_710 : decode cL_law 710 = .ok (.aload_n 0, 1) := by decide +kernel
theorem dL_law_711 : decode cL_law 711 = .ok (.iload 4, 2) := by decide +kernel
theorem dL_law_713 : decode cL_law 713 = .ok (.iconst 1, 1) := by decide +kernel
theorem dL_law_714 : decode cL_law 714 = .ok (.iadd, 1) := by decide +kernel
theorem dL_law_715 : decode cL_law 715 = .ok (.iaload, 1) := by decide +kernel
theorem dL_law_716 : decode cL_law 716 = .ok (.aload_n 0, 1) := by decide +kernel
theorem dL_law_717 : decode cL_law 717 = .ok (.iload 4, 2) := by decide +kernel
theorem dL_law_719 : decode cL_law 719 = .ok (.iconst 2, 1) := by decide +kernel
theorem dL_law_720 : decode cL_law 720 = .ok (.iadd, 1) := by decide +kernel
theorem dL_law_721 : decode cL_law 721 = .ok (.iaload, 1) := by decide +kernel
theorem dL_law_722 : decode cL_law 722 = .ok (.i2l, 1) := by decide +kernel
theorem dL_law_723 : decode cL_law 723 = .ok (.bipush 32, 2) := by decide +kernel
theorem dL_law_725 : decode cL_law 725 = .ok (.lshl, 1) := by decide +kernel
theorem dL_law_726 : decode cL_law 726 = .ok (.aload_n 0, 1) := by decide +kernel
theorem dL_law_727 : decode cL_law 727 = .ok (.iload 4, 2) := by decide +kernel
theorem dL_law_729 : decode cL_law 729 = .ok (.iconst 3, 1) := by decide +kernel
theorem dL_law_730 : decode cL_law 730 = .ok (.iadd, 1) := by decide +kernel
theorem dL_law_731 : decode cL_law 731 = .ok (.iaload, 1) := by decide +kernel
theorem dL_law_732 : decode cL_law 732 = .ok (.i2l, 1) := by decide +kernel
theorem dL_law_733 : decode cL_law 733 = .ok (.ldc2_w 57, 3) := by decide +kernel
theorem dL_law_736 : decode cL_law 736 = .ok (.land, 1) := by decide +kernel
theorem dL_law_737 : decode cL_law 737 = .ok (.lor, 1) := by decide +kernel
theorem dL_law_738 : decode cL_law 738 = .ok (.aload_n 0, 1) := by decide +kernel
theorem dL_law_739 : decode cL_law 739 = .ok (.iload 4, 2) := by decide +kernel
theorem dL_law_741 : decode cL_law 741 = .ok (.iconst 4, 1) := by decide +kernel
theorem dL_law_742 : decode cL_law 742 = .ok (.iadd, 1) := by decide +kernel
theorem dL_law_743 : decode cL_law 743 = .ok (.iaload, 1) := by decide +kernel
theorem dL_law_744 : decode cL_law 744 = .ok (.aload_n 3, 1) := by decide +kernel
theorem dL_law_745 : decode cL_law 745 = .ok (.invokestatic 110, 3) := by decide +kernel
theorem dL_law_748 : decode cL_law 748 = .ok (.istore 5, 2) := by decide +kernel
theorem dL_law_750 : decode cL_law 750 = .ok (.aload_n 2, 1) := by decide +kernel
theorem dL_law_751 : decode cL_law 751 = .ok (.aload_n 0, 1) := by decide +kernel
theorem dL_law_752 : decode cL_law 752 = .ok (.iload 4, 2) := by decide +kernel
theorem dL_law_754 : decode cL_law 754 = .ok (.iconst 1, 1) := by decide +kernel
theorem dL_law_755 : decode cL_law 755 = .ok (.iadd, 1) := by decide +kernel
theorem dL_law_756 : decode cL_law 756 = .ok (.iaload, 1) := by decide +kernel
theorem dL_law_757 : decode cL_law 757 = .ok (.aload_n 0, 1) := by decide +kernel
theorem dL_law_758 : decode cL_law 758 = .ok (.iload 4, 2) := by decide +kernel
theorem dL_law_760 : decode cL_law 760 = .ok (.iconst 2, 1) := by decide +kernel
theorem dL_law_761 : decode cL_law 761 = .ok (.iadd, 1) := by decide +kernel
theorem dL_law_762 : decode cL_law 762 = .ok (.iaload, 1) := by decide +kernel
theorem dL_law_763 : decode cL_law 763 = .ok (.i2l, 1) := by decide +kernel
theorem dL_law_764 : decode cL_law 764 = .ok (.bipush 32, 2) := by decide +kernel
theorem dL_law_766 : decode cL_law 766 = .ok (.lshl, 1) := by decide +kernel
theorem dL_law_767 : decode cL_law 767 = .ok (.aload_n 0, 1) := by decide +kernel
theorem dL_law_768 : decode cL_law 768 = .ok (.iload 4, 2) := by decide +kernel
theorem dL_law_770 : decode cL_law 770 = .ok (.iconst 3, 1) := by decide +kernel
theorem dL_law_771 : decode cL_law 771 = .ok (.iadd, 1) := by decide +kernel
theorem dL_law_772 : decode cL_law 772 = .ok (.iaload, 1) := by decide +kernel
theorem dL_law_773 : decode cL_law 773 = .ok (.i2l, 1) := by decide +kernel
theorem dL_law_774 : decode cL_law 774 = .ok (.ldc2_w 57, 3) := by decide +kernel
theorem dL_law_777 : decode cL_law 777 = .ok (.land, 1) := by decide +kernel
theorem dL_law_778 : decode cL_law 778 = .ok (.lor, 1) := by decide +kernel
theorem dL_law_779 : decode cL_law 779 = .ok (.aload_n 0, 1) := by decide +kernel
theorem dL_law_780 : decode cL_law 780 = .ok (.iload 4, 2) := by decide +kernel
theorem dL_law_782 : decode cL_law 782 = .ok (.iconst 4, 1) := by decide +kernel
theorem dL_law_783 : decode cL_law 783 = .ok (.iadd, 1) := by decide +kernel
theorem dL_law_784 : decode cL_law 784 = .ok (.iaload, 1) := by decide +kernel
theorem dL_law_785 : decode cL_law 785 = .ok (.invokevirtual 113, 3) := by decide +kernel
theorem dL_law_788 : decode cL_law 788 = .ok (.lstore 6, 2) := by decide +kernel
theorem dL_law_790 : decode cL_law 790 = .ok (.aload_n 2, 1) := by decide +kernel
theorem dL_law_791 : decode cL_law 791 = .ok (.invokevirtual 75, 3) := by decide +kernel
theorem dL_law_794 : decode cL_law 794 = .ok (.iload 5, 2) := by decide +kernel
theorem dL_law_796 : decode cL_law 796 = .ok (.if_icmp .eq 5, 3) := by decide +kernel
theorem dL_law_799 : decode cL_law 799 = .ok (.iconst 0, 1) := by decide +kernel
theorem dL_law_800 : decode cL_law 800 = .ok (.ireturn, 1) := by decide +kernel
theorem dL_law_801 : decode cL_law 801 = .ok (.iload 5, 2) := by decide +kernel
theorem dL_law_803 : decode cL_law 803 = .ok (.ifCond .ne 14, 3) := by decide +kernel
theorem dL_law_806 : decode cL_law 806 = .ok (.aload_n 3, 1) := by decide +kernel
theorem dL_law_807 : decode cL_law 807 = .ok (.iconst 0, 1) := by decide +kernel
theorem dL_law_808 : decode cL_law 808 = .ok (.laload, 1) := by decide +kernel
theorem dL_law_809 : decode cL_law 809 = .ok (.lload 6, 2) := by decide +kernel
theorem dL_law_811 : decode cL_law 811 = .ok (.lcmp, 1) := by decide +kernel
theorem dL_law_812 : decode cL_law 812 = .ok (.ifCond .eq 5, 3) := by decide +kernel
theorem dL_law_815 : decode cL_law 815 = .ok (.iconst 0, 1) := by decide +kernel
theorem dL_law_816 : decode cL_law 816 = .ok (.ireturn, 1) := by decide +kernel
theorem dL_law_817 : decode cL_law 817 = .ok (.goto 202, 3) := by decide +kernel
theorem dL_law_820 : decode cL_law 820 = .ok (.aload_n 1, 1) := by decide +kernel
theorem dL_law_821 : decode cL_law 821 = .ok (.aload_n 0, 1) := by decide +kernel
theorem dL_law_822 : decode cL_law 822 = .ok (.iload 4, 2) := by decide +kernel
theorem dL_law_824 : decode cL_law 824 = .ok (.iconst 1, 1) := by decide +kernel
theorem dL_law_825 : decode cL_law 825 = .ok (.iadd, 1) := by decide +kernel
theorem dL_law_826 : decode cL_law 826 = .ok (.iaload, 1) := by decide +kernel
theorem dL_law_827 : decode cL_law 827 = .ok (.aload_n 0, 1) := by decide +kernel
theorem dL_law_828 : decode cL_law 828 = .ok (.iload 4, 2) := by decide +kernel
theorem dL_law_830 : decode cL_law 830 = .ok (.iconst 2, 1) := by decide +kernel
theorem dL_law_831 : decode cL_law 831 = .ok (.iadd, 1) := by decide +kernel
theorem dL_law_832 : decode cL_law 832 = .ok (.iaload, 1) := by decide +kernel
theorem dL_law_833 : decode cL_law 833 = .ok (.i2l, 1) := by decide +kernel
theorem dL_law_834 : decode cL_law 834 = .ok (.bipush 32, 2) := by decide +kernel
theorem dL_law_836 : decode cL_law 836 = .ok (.lshl, 1) := by decide +kernel
theorem dL_law_837 : decode cL_law 837 = .ok (.aload_n 0, 1) := by decide +kernel
theorem dL_law_838 : decode cL_law 838 = .ok (.iload 4, 2) := by decide +kernel
theorem dL_law_840 : decode cL_law 840 = .ok (.iconst 3, 1) := by decide +kernel
theorem dL_law_841 : decode cL_law 841 = .ok (.iadd, 1) := by decide +kernel
theorem dL_law_842 : decode cL_law 842 = .ok (.iaload, 1) := by decide +kernel
theorem dL_law_843 : decode cL_law 843 = .ok (.i2l, 1) := by decide +kernel
theorem dL_law_844 : decode cL_law 844 = .ok (.ldc2_w 57, 3) := by decide +kernel
theorem dL_law_847 : decode cL_law 847 = .ok (.land, 1) := by decide +kernel
theorem dL_law_848 : decode cL_law 848 = .ok (.lor, 1) := by decide +kernel
theorem dL_law_849 : decode cL_law 849 = .ok (.aload_n 0, 1) := by decide +kernel
theorem dL_law_850 : decode cL_law 850 = .ok (.iload 4, 2) := by decide +kernel
theorem dL_law_852 : decode cL_law 852 = .ok (.iconst 4, 1) := by decide +kernel
theorem dL_law_853 : decode cL_law 853 = .ok (.iadd, 1) := by decide +kernel
theorem dL_law_854 : decode cL_law 854 = .ok (.iaload, 1) := by decide +kernel
theorem dL_law_855 : decode cL_law 855 = .ok (.aload_n 0, 1) := by decide +kernel
theorem dL_law_856 : decode cL_law 856 = .ok (.iload 4, 2) := by decide +kernel
theorem dL_law_858 : decode cL_law 858 = .ok (.iconst 5, 1) := by decide +kernel
theorem dL_law_859 : decode cL_law 859 = .ok (.iadd, 1) := by decide +kernel
theorem dL_law_860 : decode cL_law 860 = .ok (.iaload, 1) := by decide +kernel
theorem dL_law_861 : decode cL_law 861 = .ok (.aload_n 3, 1) := by decide +kernel
theorem dL_law_862 : decode cL_law 862 = .ok (.invokestatic 114, 3) := by decide +kernel
theorem dL_law_865 : decode cL_law 865 = .ok (.istore 5, 2) := by decide +kernel
theorem dL_law_867 : decode cL_law 867 = .ok (.aload_n 2, 1) := by decide +kernel
theorem dL_law_868 : decode cL_law 868 = .ok (.aload_n 0, 1) := by decide +kernel
theorem dL_law_869 : decode cL_law 869 = .ok (.iload 4, 2) := by decide +kernel
theorem dL_law_871 : decode cL_law 871 = .ok (.iconst 1, 1) := by decide +kernel
theorem dL_law_872 : decode cL_law 872 = .ok (.iadd, 1) := by decide +kernel
theorem dL_law_873 : decode cL_law 873 = .ok (.iaload, 1) := by decide +kernel
theorem dL_law_874 : decode cL_law 874 = .ok (.aload_n 0, 1) := by decide +kernel
theorem dL_law_875 : decode cL_law 875 = .ok (.iload 4, 2) := by decide +kernel
theorem dL_law_877 : decode cL_law 877 = .ok (.iconst 2, 1) := by decide +kernel
theorem dL_law_878 : decode cL_law 878 = .ok (.iadd, 1) := by decide +kernel
theorem dL_law_879 : decode cL_law 879 = .ok (.iaload, 1) := by decide +kernel
theorem dL_law_880 : decode cL_law 880 = .ok (.i2l, 1) := by decide +kernel
theorem dL_law_881 : decode cL_law 881 = .ok (.bipush 32, 2) := by decide +kernel
theorem dL_law_883 : decode cL_law 883 = .ok (.lshl, 1) := by decide +kernel
theorem dL_law_884 : decode cL_law 884 = .ok (.aload_n 0, 1) := by decide +kernel
theorem dL_law_885 : decode cL_law 885 = .ok (.iload 4, 2) := by decide +kernel
theorem dL_law_887 : decode cL_law 887 = .ok (.iconst 3, 1) := by decide +kernel
theorem dL_law_888 : decode cL_law 888 = .ok (.iadd, 1) := by decide +kernel
theorem dL_law_889 : decode cL_law 889 = .ok (.iaload, 1) := by decide +kernel
theorem dL_law_890 : decode cL_law 890 = .ok (.i2l, 1) := by decide +kernel
theorem dL_law_891 : decode cL_law 891 = .ok (.ldc2_w 57, 3) := by decide +kernel
theorem dL_law_894 : decode cL_law 894 = .ok (.land, 1) := by decide +kernel
theorem dL_law_895 : decode cL_law 895 = .ok (.lor, 1) := by decide +kernel
theorem dL_law_896 : decode cL_law 896 = .ok (.aload_n 0, 1) := by decide +kernel
theorem dL_law_897 : decode cL_law 897 = .ok (.iload 4, 2) := by decide +kernel
theorem dL_law_899 : decode cL_law 899 = .ok (.iconst 4, 1) := by decide +kernel
theorem dL_law_900 : decode cL_law 900 = .ok (.iadd, 1) := by decide +kernel
theorem dL_law_901 : decode cL_law 901 = .ok (.iaload, 1) := by decide +kernel
theorem dL_law_902 : decode cL_law 902 = .ok (.aload_n 0, 1) := by decide +kernel
theorem dL_law_903 : decode cL_law 903 = .ok (.iload 4, 2) := by decide +kernel
theorem dL_law_905 : decode cL_law 905 = .ok (.iconst 5, 1) := by decide +kernel
theorem dL_law_906 : decode cL_law 906 = .ok (.iadd, 1) := by decide +kernel
theorem dL_law_907 : decode cL_law 907 = .ok (.iaload, 1) := by decide +kernel
theorem dL_law_908 : decode cL_law 908 = .ok (.invokevirtual 117, 3) := by decide +kernel
theorem dL_law_911 : decode cL_law 911 = .ok (.istore 6, 2) := by decide +kernel
theorem dL_law_913 : decode cL_law 913 = .ok (.aload_n 2, 1) := by decide +kernel
theorem dL_law_914 : decode cL_law 914 = .ok (.invokevirtual 75, 3) := by decide +kernel
theorem dL_law_917 : decode cL_law 917 = .ok (.iload 5, 2) := by decide +kernel
theorem dL_law_919 : decode cL_law 919 = .ok (.if_icmp .eq 5, 3) := by decide +kernel
theorem dL_law_922 : decode cL_law 922 = .ok (.iconst 0, 1) := by decide +kernel
theorem dL_law_923 : decode cL_law 923 = .ok (.ireturn, 1) := by decide +kernel
theorem dL_law_924 : decode cL_law 924 = .ok (.iload 5, 2) := by decide +kernel
theorem dL_law_926 : decode cL_law 926 = .ok (.ifCond .ne 22, 3) := by decide +kernel
theorem dL_law_929 : decode cL_law 929 = .ok (.aload_n 3, 1) := by decide +kernel
theorem dL_law_930 : decode cL_law 930 = .ok (.iconst 0, 1) := by decide +kernel
theorem dL_law_931 : decode cL_law 931 = .ok (.laload, 1) := by decide +kernel
theorem dL_law_932 : decode cL_law 932 = .ok (.iload 6, 2) := by decide +kernel
theorem dL_law_934 : decode cL_law 934 = .ok (.ifCond .eq 7, 3) := by decide +kernel
theorem dL_law_937 : decode cL_law 937 = .ok (.lconst 1, 1) := by decide +kernel
theorem dL_law_938 : decode cL_law 938 = .ok (.goto 4, 3) := by decide +kernel
theorem dL_law_941 : decode cL_law 941 = .ok (.lconst 0, 1) := by decide +kernel
theorem dL_law_942 : decode cL_law 942 = .ok (.lcmp, 1) := by decide +kernel
theorem dL_law_943 : decode cL_law 943 = .ok (.ifCond .eq 5, 3) := by decide +kernel
theorem dL_law_946 : decode cL_law 946 = .ok (.iconst 0, 1) := by decide +kernel
theorem dL_law_947 : decode cL_law 947 = .ok (.ireturn, 1) := by decide +kernel
theorem dL_law_948 : decode cL_law 948 = .ok (.goto 71, 3) := by decide +kernel
theorem dL_law_951 : decode cL_law 951 = .ok (.aload_n 1, 1) := by decide +kernel
theorem dL_law_952 : decode cL_law 952 = .ok (.aload_n 0, 1) := by decide +kernel
theorem dL_law_953 : decode cL_law 953 = .ok (.iload 4, 2) := by decide +kernel
theorem dL_law_955 : decode cL_law 955 = .ok (.iconst 1, 1) := by decide +kernel
theorem dL_law_956 : decode cL_law 956 = .ok (.iadd, 1) := by decide +kernel
theorem dL_law_957 : decode cL_law 957 = .ok (.iaload, 1) := by decide +kernel
theorem dL_law_958 : decode cL_law 958 = .ok (.aload_n 0, 1) := by decide +kernel
theorem dL_law_959 : decode cL_law 959 = .ok (.iload 4, 2) := by decide +kernel
theorem dL_law_961 : decode cL_law 961 = .ok (.iconst 2, 1) := by decide +kernel
theorem dL_law_962 : decode cL_law 962 = .ok (.iadd, 1) := by decide +kernel
theorem dL_law_963 : decode cL_law 963 = .ok (.iaload, 1) := by decide +kernel
theorem dL_law_964 : decode cL_law 964 = .ok (.aload_n 3, 1) := by decide +kernel
theorem dL_law_965 : decode cL_law 965 = .ok (.invokestatic 118, 3) := by decide +kernel
theorem dL_law_968 : decode cL_law 968 = .ok (.istore 5, 2) := by decide +kernel
theorem dL_law_970 : decode cL_law 970 = .ok (.aload_n 2, 1) := by decide +kernel
theorem dL_law_971 : decode cL_law 971 = .ok (.aload_n 0, 1) := by decide +kernel
theorem dL_law_972 : decode cL_law 972 = .ok (.iload 4, 2) := by decide +kernel
theorem dL_law_974 : decode cL_law 974 = .ok (.iconst 1, 1) := by decide +kernel
theorem dL_law_975 : decode cL_law 975 = .ok (.iadd, 1) := by decide +kernel
theorem dL_law_976 : decode cL_law 976 = .ok (.iaload, 1) := by decide +kernel
theorem dL_law_977 : decode cL_law 977 = .ok (.aload_n 0, 1) := by decide +kernel
theorem dL_law_978 : decode cL_law 978 = .ok (.iload 4, 2) := by decide +kernel
theorem dL_law_980 : decode cL_law 980 = .ok (.iconst 2, 1) := by decide +kernel
theorem dL_law_981 : decode cL_law 981 = .ok (.iadd, 1) := by decide +kernel
theorem dL_law_982 : decode cL_law 982 = .ok (.iaload, 1) := by decide +kernel
theorem dL_law_983 : decode cL_law 983 = .ok (.invokevirtual 120, 3) := by decide +kernel
theorem dL_law_986 : decode cL_law 986 = .ok (.istore 6, 2) := by decide +kernel
theorem dL_law_988 : decode cL_law 988 = .ok (.aload_n 2, 1) := by decide +kernel
theorem dL_law_989 : decode cL_law 989 = .ok (.invokevirtual 75, 3) := by decide +kernel
theorem dL_law_992 : decode cL_law 992 = .ok (.iload 5, 2) := by decide +kernel
theorem dL_law_994 : decode cL_law 994 = .ok (.if_icmp .eq 5, 3) := by decide +kernel
theorem dL_law_997 : decode cL_law 997 = .ok (.iconst 0, 1) := by decide +kernel
theorem dL_law_998 : decode cL_law 998 = .ok (.ireturn, 1) := by decide +kernel
theorem dL_law_999 : decode cL_law 999 = .ok (.iload 5, 2) := by decide +kernel
theorem dL_law_1001 : decode cL_law 1001 = .ok (.ifCond .ne 15, 3) := by decide +kernel
theorem dL_law_1004 : decode cL_law 1004 = .ok (.aload_n 3, 1) := by decide +kernel
theorem dL_law_1005 : decode cL_law 1005 = .ok (.iconst 0, 1) := by decide +kernel
theorem dL_law_1006 : decode cL_law 1006 = .ok (.laload, 1) := by decide +kernel
theorem dL_law_1007 : decode cL_law 1007 = .ok (.iload 6, 2) := by decide +kernel
theorem dL_law_1009 : decode cL_law 1009 = .ok (.i2l, 1) := by decide +kernel
theorem dL_law_1010 : decode cL_law 1010 = .ok (.lcmp, 1) := by decide +kernel
theorem dL_law_1011 : decode cL_law 1011 = .ok (.ifCond .eq 5, 3) := by decide +kernel
theorem dL_law_1014 : decode cL_law 1014 = .ok (.iconst 0, 1) := by decide +kernel
theorem dL_law_1015 : decode cL_law 1015 = .ok (.ireturn, 1) := by decide +kernel
theorem dL_law_1016 : decode cL_law 1016 = .ok (.goto 3, 3) := by decide +kernel
theorem dL_law_1019 : decode cL_law 1019 = .ok (.iinc 4 6, 3) := by decide +kernel
theorem dL_law_1022 : decode cL_law 1022 = .ok (.goto (-999), 3) := by decide +kernel
theorem dL_law_1025 : decode cL_law 1025 = .ok (.iconst 1, 1) := by decide +kernel
theorem dL_law_1026 : decode cL_law 1026 = .ok (.ireturn, 1) := by decide +kernel
end
section
theorem wb_tb (n : Nat) : (lN n).toBitVec = BitVec.ofNat 64 n := rfl
theorem wb_inj {a b : Int64} (h : a.toBitVec = b.toBitVec) : a = b := Int64.toBitVec_inj.mp h
theorem wb_tn {n : Nat} (h : n < 2 ^ 64) : (lN n).toBitVec.toNat = n := by rw [wb_tb, BitVec.toNat_ofNat, Nat.mod_eq_of_lt h]
theorem wb_of (x : Int64) : ∃ n, n < 2 ^ 64 ∧ x = lN n := ⟨x.toBitVec.toNat, x.toBitVec.isLt, wb_inj (by rw [wb_tb]; simp)⟩
theorem wb_of32 (x : Int32) : ∃ n, n < 2 ^ 32 ∧ x = nI n := ⟨x.toBitVec.toNat, x.toBitVec.isLt, Int32.toBitVec_inj.mp (by show _ = BitVec.ofNat 32 _; simp)⟩
theorem wb_c : ∀ k, k < 64 → ((nI k).toInt64 &&& 63) = lN k := by decide +kernel
theorem wb_cu : ∀ k, k < 64 → ((nI k).toInt64.toUInt64 &&& Int64.toUInt64 63) = UInt64.ofNat k := by decide +kernel
theorem wb_sm : ∀ k, k < 64 → (BitVec.ofNat 64 k).smod 64 = BitVec.ofNat 64 k := by decide +kernel
theorem wb_pw {a b : Nat} (h : a ≤ b) : 2 ^ b = 2 ^ a * 2 ^ (b - a) := by rw [← Nat.pow_add]; congr 1; omega
theorem wb_lt2 {a b : Nat} (h : a < b) : 2 ^ a < 2 ^ b := Nat.pow_lt_pow_right (by decide) h
theorem wb_mod (n : Nat) : lN n = lN (n % 2 ^ 64) := wb_inj (by rw [wb_tb, wb_tb]; apply BitVec.eq_of_toNat_eq; rw [BitVec.toNat_ofNat, BitVec.toNat_ofNat, Nat.mod_mod])
theorem wb_shr {n k : Nat} (hn : n < 2 ^ 64) (hk : k < 64) : ((lN n).toUInt64 >>> ((nI k).toInt64.toUInt64 &&& Int64.toUInt64 63)).toInt64 = lN (n / 2 ^ k) := by
  rw [wb_cu k hk]
  apply wb_inj
  apply BitVec.eq_of_toNat_eq
  show ((lN n).toUInt64 >>> UInt64.ofNat k).toNat = (BitVec.ofNat 64 _).toNat
  have h1 : (UInt64.ofNat k).toNat = k := by
    show (BitVec.ofNat 64 k).toNat = k
    rw [BitVec.toNat_ofNat, Nat.mod_eq_of_lt (by omega)]
  have h2 : (lN n).toUInt64.toNat = n := wb_tn hn
  rw [UInt64.toNat_shiftRight, h1, h2, Nat.mod_eq_of_lt hk, Nat.shiftRight_eq_div_pow, BitVec.toNat_ofNat, Nat.mod_eq_of_lt (Nat.lt_of_le_of_lt (Nat.div_le_self _ _) hn)]
theorem wb_shl (n : Nat) {k : Nat} (hk : k < 64) : lN n <<< ((nI k).toInt64 &&& 63) = lN (n * 2 ^ k) := by
  rw [wb_c k hk]
  apply wb_inj
  rw [Int64.toBitVec_shiftLeft, wb_tb, wb_tb, wb_tb, wb_sm k hk]
  apply BitVec.eq_of_toNat_eq
  rw [BitVec.shiftLeft_eq', BitVec.toNat_shiftLeft, BitVec.toNat_ofNat, BitVec.toNat_ofNat, BitVec.toNat_ofNat, Nat.mod_eq_of_lt (show k < 2 ^ 64 by omega), Nat.shiftLeft_eq, Nat.mul_mod, Nat.mod_mod, ← Nat.mul_mod]
theorem wb_and {a b : Nat} (ha : a < 2 ^ 64) (hb : b < 2 ^ 64) : lN a &&& lN b = lN (a &&& b) := by
  apply wb_inj
  rw [Int64.toBitVec_and, wb_tb, wb_tb, wb_tb]
  apply BitVec.eq_of_toNat_eq
  rw [BitVec.toNat_and, BitVec.toNat_ofNat, BitVec.toNat_ofNat, BitVec.toNat_ofNat, Nat.mod_eq_of_lt ha, Nat.mod_eq_of_lt hb, Nat.mod_eq_of_lt (Nat.and_lt_two_pow _ hb)]
theorem wb_or {a b : Nat} (ha : a < 2 ^ 64) (hb : b < 2 ^ 64) : lN a ||| lN b = lN (a ||| b) := by
  apply wb_inj
  rw [Int64.toBitVec_or, wb_tb, wb_tb, wb_tb]
  apply BitVec.eq_of_toNat_eq
  rw [BitVec.toNat_or, BitVec.toNat_ofNat, BitVec.toNat_ofNat, BitVec.toNat_ofNat, Nat.mod_eq_of_lt ha, Nat.mod_eq_of_lt hb, Nat.mod_eq_of_lt (Nat.or_lt_two_pow ha hb)]
theorem wb_mask {n k : Nat} (hn : n < 2 ^ 64) (hk : k < 64) : lN n &&& lN (2 ^ k - 1) = lN (n % 2 ^ k) := by
  rw [wb_and hn (by have := wb_lt2 hk; omega), Nat.and_two_pow_sub_one_eq_mod]
theorem wb_a1 {n : Nat} (hn : n < 2 ^ 64) : lN n &&& 1 = lN (n % 2) := wb_mask (k := 1) hn (by decide)
theorem wb_bit {n k : Nat} (hn : n < 2 ^ 64) (hk : k < 64) : ((lN n).toUInt64 >>> ((nI k).toInt64.toUInt64 &&& Int64.toUInt64 63)).toInt64 &&& 1 = lN (n / 2 ^ k % 2) := by
  rw [wb_shr hn hk, wb_a1 (Nat.lt_of_le_of_lt (Nat.div_le_self _ _) hn)]
theorem pf_lI {a : Nat} (h : a < 2 ^ 63) : (lN a).toInt = (a : Int) := lg_ofNat_toInt h
theorem pf_shr {a d : Nat} {D : Int64} (hD : (D.toBitVec.smod 64).toNat = d) (h : a < 2 ^ 62) : lN a >>> D = lN (a / 2 ^ d) := by
  have hd : a / 2 ^ d ≤ a := Nat.div_le_self _ _
  apply Int64.toInt_inj.mp
  have e : (lN a >>> D).toInt = (lN a).toInt >>> d := by
    rw [← hD]
    exact BitVec.toInt_sshiftRight ..
  rw [e, Int.shiftRight_eq_div_pow, pf_lI (by omega), pf_lI (by omega)]
  rfl
theorem dk_sm : ∀ k, k < 64 → ((((nI k).toInt64 &&& 63)).toBitVec.smod 64).toNat = k := by decide +kernel
end
section
theorem dk_half0 {a j : Nat} (h : a / 2 ^ j % 2 = 0) : 2 * (a / 2 ^ (j + 1)) = a / 2 ^ j := by
  have := dk_pw_half a j
  omega
theorem dk_half1 {a j : Nat} (h : a / 2 ^ j % 2 = 1) : 2 * (a / 2 ^ (j + 1)) + 1 = a / 2 ^ j := by
  have := dk_pw_half a j
  omega

set_option maxHeartbeats 4000000 in
set_option maxRecDepth 100000 in
theorem dk_c_mix (l : Launch) (a b : Int64) : Met l yX0_mix wsX0_mix ({ frames := 0, cells := 0, slots := 0, locals := 0 }) (va_Pc [.long a, .long b] (fun _ => True)) (vp_Sl (fun r9 => r9 = dk_H a b)) 0 0 (fun _ => False) := by
  refine Met.ofW (cc := cX0_mix) (maxL := 6) (ret := (some .long)) (by decide) rfl ?_
  intro p e s m args below meth c s₁ B hml hv
  obtain ⟨rfl, -⟩ := hv
  have hx := B.exec
  have hb := B.bytes
  have hr := B.returns
  have hts := atoms_spec (ws := wsX0_mix) B.pre
  have hown : s.vm.findClass RX0 = some m.cls := findClass_of_methodNamed B.named
  have hlocks := B.notSynchronized
  have hl := lv_entry ([.long a, .long b]) (n := 6) (Nat.le_of_ble_eq_true rfl)
  rw [lg_entry_eq]
  generalize (lg_sl ([.long a, .long b]) ++ List.replicate (6 - (lg_sl ([.long a, .long b])).length) Slot.unset).toArray = ls at hl ⊢
  have hl : lv_has ls 6 [(0, .long a), (2, .long b)] := hl
  refine lv_lload_n hx hb dX0_mix_0 rfl (lv_at hl 0 rfl) ?_
  refine lv_ldc2 (v := 1442695040888963407) hx hb hown (hts (.constantLong RX0 139 1442695040888963407) (by decide +kernel)) dX0_mix_1 ?_
  refine lv_lxor hx hb dX0_mix_4 ?_
  refine lv_ldc2 (v := 6364136223846793005) hx hb hown (hts (.constantLong RX0 141 6364136223846793005) (by decide +kernel)) dX0_mix_5 ?_
  refine lv_lmul hx hb dX0_mix_8 ?_
  refine lv_lload_n hx hb dX0_mix_9 rfl (lv_at hl 1 rfl) ?_
  refine lv_ladd hx hb dX0_mix_10 ?_
  refine lv_topl (fun v_10 ev_10 => ?_)
  have ev_10 : v_10 = dk_h1 a b := ev_10.trans rfl
  subst ev_10
  refine lv_lstore (lv' := [(4, .long (dk_h1 a b)), (0, .long a), (2, .long b)]) hx hb dX0_mix_11 hl (by decide) rfl (fun ls hl => ?_)
  refine lv_lload hx hb dX0_mix_13 (lv_at hl 0 rfl) ?_
  refine lv_lload hx hb dX0_mix_15 (lv_at hl 0 rfl) ?_
  refine lv_bipush (v := 32) hx hb dX0_mix_17 (by decide) ?_
  refine lv_lushr hx hb dX0_mix_19 rfl ?_
  refine lv_lxor hx hb dX0_mix_20 ?_
  refine lv_topl (fun v_20 ev_20 => ?_)
  have ev_20 : v_20 = dk_h2 (dk_h1 a b) := ev_20.trans rfl
  subst ev_20
  refine lv_lstore (lv' := [(4, .long (dk_h2 (dk_h1 a b))), (0, .long a), (2, .long b)]) hx hb dX0_mix_21 hl (by decide) rfl (fun ls hl => ?_)
  refine lv_lload hx hb dX0_mix_23 (lv_at hl 0 rfl) ?_
  refine lv_ldc2 (v := 2862933555777941757) hx hb hown (hts (.constantLong RX0 143 2862933555777941757) (by decide +kernel)) dX0_mix_25 ?_
  refine lv_lmul hx hb dX0_mix_28 ?_
  refine lv_topl (fun v_28 ev_28 => ?_)
  have ev_28 : v_28 = dk_h3 (dk_h2 (dk_h1 a b)) := ev_28.trans rfl
  subst ev_28
  refine lv_lstore (lv' := [(4, .long (dk_h3 (dk_h2 (dk_h1 a b)))), (0, .long a), (2, .long b)]) hx hb dX0_mix_29 hl (by decide) rfl (fun ls hl => ?_)
  refine lv_lload hx hb dX0_mix_31 (lv_at hl 0 rfl) ?_
  refine lv_lload hx hb dX0_mix_33 (lv_at hl 0 rfl) ?_
  refine lv_bipush (v := 29) hx hb dX0_mix_35 (by decide) ?_
  refine lv_lushr hx hb dX0_mix_37 rfl ?_
  refine lv_lxor hx hb dX0_mix_38 ?_
  refine lv_topl (fun v_38 ev_38 => ?_)
  have ev_38 : v_38 = dk_H a b := ev_38.trans rfl
  subst ev_38
  exact W.lret (v := (dk_H a b)) hx hb hr (fun t ht hW => ⟨_, rfl, rfl, ht⟩) (fun q h => nomatch h) dX0_mix_39

set_option maxHeartbeats 4000000 in
set_option maxRecDepth 100000 in
theorem dk_power_loop {p : Program} {l : Launch} {e : Env} {R : Room} {s : State} {m : MethodId} {args : Array Value} {below : List Frame} {meth : Method} {c : Code} {H : Heap} {locs : List Loc} {cells slots : Nat} {Q : State → Prop} (hx : p.tables.exec = Jvm.exec) (hb : c.code = cX0_power) (b9 e9 m9 : Nat) (hb9 : b9 < 2147483648) (he9 : e9 < 2147483648) (hm0 : 2 ≤ m9) (hm9 : m9 < 2147483648) (kk : ∀ ls : Array Slot, lv_has ls 6 [(3, .long (lN (b9 ^ e9 % m9)))] → W p l e R s m args below meth c H locs cells slots Q (F0 m 42 ls [])) :
    ∀ (n r : Nat) (ls : Array Slot), n ≤ 31 → r = b9 ^ (e9 / 2 ^ n) % m9 → lv_has ls 6 [(0, .int (nI b9)), (1, .int (nI e9)), (2, .int (nI m9)), (3, .long (lN r)), (5, .int (nI n + (-1)))] → W p l e R s m args below meth c H locs cells slots Q (F0 m 6 ls []) := by
  have hz : ¬ (nI m9).toInt64 = 0 := by rw [nI_l hm9]; exact dk_lne (by omega) (by omega)
  intro n
  induction n with
  | zero =>
    intro r ls hn er hl
    refine lv_iload hx hb dX0_power_6 (lv_at hl 4 rfl) ?_
    refine lv_if_lt (tgt := 42) hx hb dX0_power_8 (by decide) (fun c_8 => ?_) (fun c_8 => ?_)
    · have er : r = b9 ^ e9 % m9 := by rw [er, Nat.pow_zero, Nat.div_one]
      subst er
      exact kk ls (lv_sub hl [3] rfl)
    · exact absurd (by decide) c_8
  | succ j ih =>
    intro r ls hn er hl
    have hrm : r < m9 := by rw [er]; exact Nat.mod_lt _ (by omega)
    rw [pk_m1] at hl
    have hrr : r * r < 9223372036854775808 := Nat.lt_of_le_of_lt (Nat.mul_le_mul (Nat.le_of_lt (Nat.lt_trans hrm hm9)) (Nat.le_of_lt (Nat.lt_trans hrm hm9))) (by decide)
    have hrm2 : r * r % m9 < m9 := Nat.mod_lt _ (by omega)
    have hrb : r * r % m9 * b9 < 9223372036854775808 := Nat.lt_of_le_of_lt (Nat.mul_le_mul (Nat.le_of_lt (Nat.lt_trans hrm2 hm9)) (Nat.le_of_lt hb9)) (by decide)
    refine lv_iload hx hb dX0_power_6 (lv_at hl 4 rfl) ?_
    refine lv_if_lt (tgt := 42) hx hb dX0_power_8 (by decide) (fun c_8 => ?_) (fun c_8 => ?_)
    · exact absurd c_8 (nI_pos (by omega))
    · refine lv_lload_n hx hb dX0_power_11 rfl (lv_at hl 3 rfl) ?_
      refine lv_lload_n hx hb dX0_power_12 rfl (lv_at hl 3 rfl) ?_
      refine lv_lmul hx hb dX0_power_13 ?_
      refine lv_iload_n hx hb dX0_power_14 rfl (lv_at hl 2 rfl) ?_
      refine lv_i2l hx hb dX0_power_15 rfl ?_
      refine lv_lrem hx hb dX0_power_16 hz ?_
      refine lv_topl (fun v_16 ev_16 => ?_)
      have ev_16 : v_16 = lN (r * r % m9) := ev_16.trans (by rw [nI_l hm9, lN_mul, pk_lRem hrr (by omega) (by omega)])
      subst ev_16
      refine lv_lstore_n (lv' := [(3, .long (lN (r * r % m9))), (0, .int (nI b9)), (1, .int (nI e9)), (2, .int (nI m9)), (5, .int (nI j))]) hx hb dX0_power_17 rfl hl (by decide) rfl (fun ls hl => ?_)
      refine lv_iload_n hx hb dX0_power_18 rfl (lv_at hl 2 rfl) ?_
      refine lv_iload hx hb dX0_power_19 (lv_at hl 4 rfl) ?_
      refine lv_iushr hx hb dX0_power_21 rfl ?_
      refine lv_iconst (v := 1) hx hb dX0_power_22 (by decide) ?_
      refine lv_iand hx hb dX0_power_23 ?_
      refine lv_topi (fun v_23 ev_23 => ?_)
      have ev_23 : v_23 = nI (e9 / 2 ^ j % 2) := ev_23.trans (dk_bit he9 (by omega))
      subst ev_23
      refine lv_iconst (v := 1) hx hb dX0_power_24 (by decide) ?_
      refine lv_icmp_ne (tgt := 36) hx hb dX0_power_25 (by decide) (fun c_25 => ?_) (fun c_25 => ?_)
      · have hb1 : e9 / 2 ^ j % 2 = 0 := by
          rcases (show e9 / 2 ^ j % 2 = 0 ∨ e9 / 2 ^ j % 2 = 1 by omega) with q | q
          · exact q
          · exact absurd (by rw [q]; rfl) c_25
        refine lv_iinc (v := ((nI j) + (-1))) (lv' := [(5, .int ((nI j) + (-1))), (3, .long (lN (r * r % m9))), (0, .int (nI b9)), (1, .int (nI e9)), (2, .int (nI m9))]) hx hb dX0_power_36 hl (k := 4) rfl rfl (by decide) rfl (fun ls hl => ?_)
        refine lv_goto (tgt := 6) hx hb dX0_power_39 (by decide) ?_
        exact ih (r * r % m9) ls (by omega) (by rw [dk_pw_sq er, dk_half0 hb1]) (lv_sub hl [2, 3, 4, 1, 0] rfl)
      · have hb1 : e9 / 2 ^ j % 2 = 1 := (nI_eq (by omega) (by omega)).mp c_25
        refine lv_lload_n hx hb dX0_power_28 rfl (lv_at hl 0 rfl) ?_
        refine lv_iload_n hx hb dX0_power_29 rfl (lv_at hl 1 rfl) ?_
        refine lv_i2l hx hb dX0_power_30 rfl ?_
        refine lv_lmul hx hb dX0_power_31 ?_
        refine lv_iload_n hx hb dX0_power_32 rfl (lv_at hl 3 rfl) ?_
        refine lv_i2l hx hb dX0_power_33 rfl ?_
        refine lv_lrem hx hb dX0_power_34 hz ?_
        refine lv_topl (fun v_34 ev_34 => ?_)
        have ev_34 : v_34 = lN (r * r % m9 * b9 % m9) := ev_34.trans (by rw [nI_l hm9, nI_l hb9, lN_mul, pk_lRem hrb (by omega) (by omega)])
        subst ev_34
        refine lv_lstore_n (lv' := [(3, .long (lN (r * r % m9 * b9 % m9))), (0, .int (nI b9)), (1, .int (nI e9)), (2, .int (nI m9)), (5, .int (nI j))]) hx hb dX0_power_35 rfl hl (by decide) rfl (fun ls hl => ?_)
        refine lv_iinc (v := ((nI j) + (-1))) (lv' := [(5, .int ((nI j) + (-1))), (3, .long (lN (r * r % m9 * b9 % m9))), (0, .int (nI b9)), (1, .int (nI e9)), (2, .int (nI m9))]) hx hb dX0_power_36 hl (k := 4) rfl rfl (by decide) rfl (fun ls hl => ?_)
        refine lv_goto (tgt := 6) hx hb dX0_power_39 (by decide) ?_
        exact ih (r * r % m9 * b9 % m9) ls (by omega) (by rw [dk_pw_mul (dk_pw_sq er), dk_half1 hb1]) (lv_sub hl [2, 3, 4, 1, 0] rfl)

set_option maxHeartbeats 4000000 in
set_option maxRecDepth 100000 in
theorem dk_c_power (l : Launch) (b9 e9 m9 : Nat) (hb9 : b9 < 2147483648) (he9 : e9 < 2147483648) (hm0 : 2 ≤ m9) (hm9 : m9 < 2147483648) : Met l yX0_power wsX0_power ({ frames := 0, cells := 0, slots := 0, locals := 0 }) (va_Pc [.int (nI b9), .int (nI e9), .int (nI m9)] (fun _ => True)) (vp_Si (fun r9 => r9 = nI (b9 ^ e9 % m9))) 0 0 (fun _ => False) := by
  refine Met.ofW (cc := cX0_power) (maxL := 6) (ret := (some .int)) (by decide) rfl ?_
  intro p e s m args below meth c s₁ B hml hv
  obtain ⟨rfl, -⟩ := hv
  have hx := B.exec
  have hb := B.bytes
  have hr := B.returns
  have hts := atoms_spec (ws := wsX0_power) B.pre
  have hown : s.vm.findClass RX0 = some m.cls := findClass_of_methodNamed B.named
  have hlocks := B.notSynchronized
  have hl := lv_entry ([.int (nI b9), .int (nI e9), .int (nI m9)]) (n := 6) (Nat.le_of_ble_eq_true rfl)
  rw [lg_entry_eq]
  generalize (lg_sl ([.int (nI b9), .int (nI e9), .int (nI m9)]) ++ List.replicate (6 - (lg_sl ([.int (nI b9), .int (nI e9), .int (nI m9)])).length) Slot.unset).toArray = ls at hl ⊢
  have hl : lv_has ls 6 [(0, .int (nI b9)), (1, .int (nI e9)), (2, .int (nI m9))] := hl
  refine lv_lconst (v := 1) hx hb dX0_power_0 (by decide) ?_
  refine lv_lstore_n (lv' := [(3, .long 1), (0, .int (nI b9)), (1, .int (nI e9)), (2, .int (nI m9))]) hx hb dX0_power_1 rfl hl (by decide) rfl (fun ls hl => ?_)
  refine lv_bipush (v := 30) hx hb dX0_power_2 (by decide) ?_
  refine lv_istore (lv' := [(5, .int 30), (3, .long 1), (0, .int (nI b9)), (1, .int (nI e9)), (2, .int (nI m9))]) hx hb dX0_power_4 hl (by decide) rfl (fun ls hl => ?_)
  refine dk_power_loop hx hb b9 e9 m9 hb9 he9 hm0 hm9 (fun ls hl => ?_) 31 1 ls (Nat.le_refl _) (by rw [Nat.div_eq_of_lt (by omega), Nat.pow_zero, Nat.mod_eq_of_lt (by omega)]) (lv_sub hl [2, 3, 4, 1, 0] rfl)
  refine lv_lload_n hx hb dX0_power_42 rfl (lv_at hl 0 rfl) ?_
  refine lv_l2i hx hb dX0_power_43 rfl ?_
  refine lv_topi (fun v_43 ev_43 => ?_)
  have ev_43 : v_43 = nI (b9 ^ e9 % m9) := ev_43.trans (lN_i _)
  subst ev_43
  exact W.iret (v := (nI (b9 ^ e9 % m9))) hx hb hr (fun t ht hW => ⟨_, rfl, rfl, ht⟩) (fun q h => nomatch h) dX0_power_44

set_option maxHeartbeats 4000000 in
set_option maxRecDepth 100000 in
theorem dk_isPrime_loop {p : Program} {l : Launch} {e : Env} {R : Room} {s : State} {m : MethodId} {args : Array Value} {below : List Frame} {meth : Method} {c : Code} {H : Heap} {locs : List Loc} {cells slots : Nat} {Q : State → Prop} (hx : p.tables.exec = Jvm.exec) (hb : c.code = cX0_isPrime) (hown : s.vm.findClass RX0 = some m.cls) (hts : ∀ w ∈ wsX0_isPrime, w.before args s = true) (x : Nat) (hx2 : 3 ≤ x) (hx9 : x < 2147483648) (hod : x % 2 = 1) (k1 : dk_pr x → ∀ (pc : Nat) (ls : Array Slot), pc = 38 ∨ pc = 54 → W p l e R s m args below meth c H locs cells slots Q (F0 m pc ls [.int 1])) (k0 : ¬ dk_pr x → ∀ ls : Array Slot, W p l e R s m args below meth c H locs cells slots Q (F0 m 46 ls [.int 0])) :
    ∀ (n d : Nat) (ls : Array Slot), 46343 ≤ d + n → 3 ≤ d → d ≤ 46342 → d % 2 = 1 → (∀ d2 : Nat, 3 ≤ d2 → d2 % 2 = 1 → d2 < d → ¬ x % d2 = 0) → lv_has ls 2 [(0, .int (nI x)), (1, .int (nI d))] → W p l e R s m args below meth c H locs cells slots Q (F0 m 24 ls []) := by
  intro n
  induction n with
  | zero =>
    intro d ls h1 h2 h3
    exact absurd h1 (by omega)
  | succ n ih =>
    intro d ls h1 h2 h3 h4 h5 hl
    refine lv_iload_n hx hb dX0_isPrime_24 rfl (lv_at hl 1 rfl) ?_
    refine lv_ldc (v := 46340) hx hb hown (hts (.constant RX0 138 46340) (by decide +kernel)) dX0_isPrime_25 ?_
    refine lv_icmp_gt (tgt := 53) hx hb dX0_isPrime_27 (by decide) (fun c_27 => ?_) (fun c_27 => ?_)
    · have hd9 : 46340 < d := (nI_ltI (by omega) (by omega)).mp c_27
      have hp : dk_pr x := dk_pr_odd hx2 hod (fun d2 q1 q2 q3 => h5 d2 q1 q2 (by
        rcases Nat.lt_or_ge d2 d with q | q
        · exact q
        · have := Nat.mul_le_mul (Nat.le_trans hd9 q) (Nat.le_trans hd9 q)
          omega))
      refine lv_iconst (v := 1) hx hb dX0_isPrime_53 (by decide) ?_
      exact k1 hp 54 ls (Or.inr rfl)
    · have hd9 : ¬ 46340 < d := fun q => c_27 ((nI_ltI (a := 46340) (b := d) (by omega) (by omega)).mpr q)
      have hdm : d * d ≤ 46340 * 46340 := Nat.mul_le_mul (by omega) (by omega)
      refine lv_iload_n hx hb dX0_isPrime_30 rfl (lv_at hl 1 rfl) ?_
      refine lv_iload_n hx hb dX0_isPrime_31 rfl (lv_at hl 1 rfl) ?_
      refine lv_imul hx hb dX0_isPrime_32 ?_
      refine lv_topi (fun v_32 ev_32 => ?_)
      have ev_32 : v_32 = nI (d * d) := ev_32.trans (pk_mul d d)
      subst ev_32
      refine lv_iload_n hx hb dX0_isPrime_33 rfl (lv_at hl 0 rfl) ?_
      refine lv_icmp_le (tgt := 39) hx hb dX0_isPrime_34 (by decide) (fun c_34 => ?_) (fun c_34 => ?_)
      · have hle : d * d ≤ x := (nI_leI (by omega) (by omega)).mp c_34
        refine lv_iload_n hx hb dX0_isPrime_39 rfl (lv_at hl 0 rfl) ?_
        refine lv_iload_n hx hb dX0_isPrime_40 rfl (lv_at hl 1 rfl) ?_
        refine lv_irem hx hb dX0_isPrime_41 (nI_ne0 (by omega) (by omega)) ?_
        refine lv_topi (fun v_41 ev_41 => ?_)
        have ev_41 : v_41 = nI (x % d) := ev_41.trans (pk_rem (by omega) (by omega) (by omega))
        subst ev_41
        refine lv_if_ne (tgt := 47) hx hb dX0_isPrime_42 (by decide) (fun c_42 => ?_) (fun c_42 => ?_)
        · have hnm : ¬ x % d = 0 := fun q => c_42 (by rw [q]; rfl)
          refine lv_iinc (v := (nI (d + 2))) (lv' := [(1, .int (nI (d + 2))), (0, .int (nI x))]) hx hb dX0_isPrime_47 hl (k := 1) rfl (nI_add d 2) (by decide) rfl (fun ls hl => ?_)
          refine lv_goto (tgt := 24) hx hb dX0_isPrime_50 (by decide) ?_
          exact ih (d + 2) ls (by omega) (by omega) (by omega) (by omega) (fun d2 q1 q2 q3 => if q4 : d2 < d then h5 d2 q1 q2 q4 else by rw [show d2 = d by omega]; exact hnm) (lv_sub hl [1, 0] rfl)
        · have hlt : x % d < d := Nat.mod_lt _ (by omega)
          have hnm : x % d = 0 := (nI_eq (by omega) (by omega)).mp c_42
          refine lv_iconst (v := 0) hx hb dX0_isPrime_45 (by decide) ?_
          exact k0 (dk_pr_not (by omega) hle hnm) ls
      · have hle : ¬ d * d ≤ x := fun q => c_34 ((nI_leI (a := d * d) (b := x) (by omega) (by omega)).mpr q)
        have hp : dk_pr x := dk_pr_odd hx2 hod (fun d2 q1 q2 q3 => h5 d2 q1 q2 (by
          rcases Nat.lt_or_ge d2 d with q | q
          · exact q
          · have := Nat.mul_le_mul q q
            omega))
        refine lv_iconst (v := 1) hx hb dX0_isPrime_37 (by decide) ?_
        exact k1 hp 38 ls (Or.inl rfl)

set_option maxHeartbeats 4000000 in
set_option maxRecDepth 100000 in
theorem dk_c_isPrime (l : Launch) (x : Nat) (hx9 : x < 2147483648) : Met l yX0_isPrime wsX0_isPrime ({ frames := 0, cells := 0, slots := 0, locals := 0 }) (va_Pc [.int (nI x)] (fun _ => True)) (vp_Si (fun r9 => (r9 = 1 ∧ dk_pr x) ∨ (r9 = 0 ∧ ¬ dk_pr x))) 0 0 (fun _ => False) := by
  refine Met.ofW (cc := cX0_isPrime) (maxL := 2) (ret := (some .boolean)) (by decide) rfl ?_
  intro p e s m args below meth c s₁ B hml hv
  obtain ⟨rfl, -⟩ := hv
  have hx := B.exec
  have hb := B.bytes
  have hr := B.returns
  have hts := atoms_spec (ws := wsX0_isPrime) B.pre
  have hown : s.vm.findClass RX0 = some m.cls := findClass_of_methodNamed B.named
  have hlocks := B.notSynchronized
  have hl := lv_entry ([.int (nI x)]) (n := 2) (Nat.le_of_ble_eq_true rfl)
  rw [lg_entry_eq]
  generalize (lg_sl ([.int (nI x)]) ++ List.replicate (2 - (lg_sl ([.int (nI x)])).length) Slot.unset).toArray = ls at hl ⊢
  have hl : lv_has ls 2 [(0, .int (nI x))] := hl
  refine lv_iload_n hx hb dX0_isPrime_0 rfl (lv_at hl 0 rfl) ?_
  refine lv_iconst (v := 2) hx hb dX0_isPrime_1 (by decide) ?_
  refine lv_icmp_lt (tgt := 11) hx hb dX0_isPrime_2 (by decide) (fun c_2 => ?_) (fun c_2 => ?_)
  · have hlt : x < 2 := (nI_ltI (by omega) (by omega)).mp c_2
    refine lv_iload_n hx hb dX0_isPrime_11 rfl (lv_at hl 0 rfl) ?_
    refine lv_iconst (v := 2) hx hb dX0_isPrime_12 (by decide) ?_
    refine lv_icmp_ne (tgt := 20) hx hb dX0_isPrime_13 (by decide) (fun c_13 => ?_) (fun c_13 => ?_)
    · have hn2 : ¬ x = 2 := fun q => c_13 (by rw [q]; rfl)
      have hp : ¬ dk_pr x := fun q => by
        have q1 := q.1
        first
          | omega
          | exact q.2 2 (by omega) (by omega) hev
      refine lv_iconst (v := 0) hx hb dX0_isPrime_20 (by decide) ?_
      exact W.zret (v := 0) (ty := .boolean) hx hb hr rfl (fun t ht hW => ⟨_, rfl, Or.inr ⟨rfl, hp⟩, ht⟩) (fun q h => nomatch h) dX0_isPrime_21
    · have hn2 : x = 2 := (nI_eq (by omega) (by omega)).mp c_13
      have hp : dk_pr x := ⟨by omega, fun d q1 q2 => by omega⟩
      refine lv_iconst (v := 1) hx hb dX0_isPrime_16 (by decide) ?_
      refine lv_goto (tgt := 21) hx hb dX0_isPrime_17 (by decide) ?_
      exact W.zret (v := 1) (ty := .boolean) hx hb hr rfl (fun t ht hW => ⟨_, rfl, Or.inl ⟨rfl, hp⟩, ht⟩) (fun q h => nomatch h) dX0_isPrime_21
  · have hge : ¬ x < 2 := fun q => c_2 ((nI_ltI (a := x) (b := 2) (by omega) (by omega)).mpr q)
    refine lv_iload_n hx hb dX0_isPrime_5 rfl (lv_at hl 0 rfl) ?_
    refine lv_iconst (v := 2) hx hb dX0_isPrime_6 (by decide) ?_
    refine lv_irem hx hb dX0_isPrime_7 (by decide) ?_
    refine lv_topi (fun v_7 ev_7 => ?_)
    have ev_7 : v_7 = nI (x % 2) := ev_7.trans (pk_rem (d := 2) (by omega) (by omega) (by omega))
    subst ev_7
    refine lv_if_ne (tgt := 22) hx hb dX0_isPrime_8 (by decide) (fun c_8 => ?_) (fun c_8 => ?_)
    · have hod : x % 2 = 1 := by
        rcases (show x % 2 = 0 ∨ x % 2 = 1 by omega) with q | q
        · exact absurd (by rw [q]; rfl) c_8
        · exact q
      refine lv_iconst (v := 3) hx hb dX0_isPrime_22 (by decide) ?_
      refine lv_istore_n (lv' := [(1, .int 3), (0, .int (nI x))]) hx hb dX0_isPrime_23 rfl hl (by decide) rfl (fun ls hl => ?_)
      refine dk_isPrime_loop hx hb hown hts x (by omega) hx9 hod (fun hp pc ls hpc => ?_) (fun hp ls => ?_) 46340 3 ls (by omega) (by omega) (by omega) (by omega) (fun d2 q1 q2 q3 => absurd q3 (by omega)) (lv_sub hl [1, 0] rfl)
      · rcases hpc with rfl | rfl
        · exact W.zret (v := 1) (ty := .boolean) hx hb hr rfl (fun t ht hW => ⟨_, rfl, Or.inl ⟨rfl, hp⟩, ht⟩) (fun q h => nomatch h) dX0_isPrime_38
        · exact W.zret (v := 1) (ty := .boolean) hx hb hr rfl (fun t ht hW => ⟨_, rfl, Or.inl ⟨rfl, hp⟩, ht⟩) (fun q h => nomatch h) dX0_isPrime_54
      · exact W.zret (v := 0) (ty := .boolean) hx hb hr rfl (fun t ht hW => ⟨_, rfl, Or.inr ⟨rfl, hp⟩, ht⟩) (fun q h => nomatch h) dX0_isPrime_46
    · have hev : x % 2 = 0 := (nI_eq (by omega) (by omega)).mp c_8
      refine lv_iload_n hx hb dX0_isPrime_11 rfl (lv_at hl 0 rfl) ?_
      refine lv_iconst (v := 2) hx hb dX0_isPrime_12 (by decide) ?_
      refine lv_icmp_ne (tgt := 20) hx hb dX0_isPrime_13 (by decide) (fun c_13 => ?_) (fun c_13 => ?_)
      · have hn2 : ¬ x = 2 := fun q => c_13 (by rw [q]; rfl)
        have hp : ¬ dk_pr x := fun q => by
          have q1 := q.1
          first
            | omega
            | exact q.2 2 (by omega) (by omega) hev
        refine lv_iconst (v := 0) hx hb dX0_isPrime_20 (by decide) ?_
        exact W.zret (v := 0) (ty := .boolean) hx hb hr rfl (fun t ht hW => ⟨_, rfl, Or.inr ⟨rfl, hp⟩, ht⟩) (fun q h => nomatch h) dX0_isPrime_21
      · have hn2 : x = 2 := (nI_eq (by omega) (by omega)).mp c_13
        have hp : dk_pr x := ⟨by omega, fun d q1 q2 => by omega⟩
        refine lv_iconst (v := 1) hx hb dX0_isPrime_16 (by decide) ?_
        refine lv_goto (tgt := 21) hx hb dX0_isPrime_17 (by decide) ?_
        exact W.zret (v := 1) (ty := .boolean) hx hb hr rfl (fun t ht hW => ⟨_, rfl, Or.inl ⟨rfl, hp⟩, ht⟩) (fun q h => nomatch h) dX0_isPrime_21
end
section
set_option maxHeartbeats 4000000 in
set_option maxRecDepth 100000 in
theorem dk_c_inverse (l : Launch) (a9 q9 : Nat) (ha9 : a9 < 2147483648) (hq0 : 2 ≤ q9) (hq9 : q9 < 2147483648) : Met l yX0_inverse wsX0_inverse ({ frames := 1, cells := 0, slots := 0, locals := 25 }) (va_Pc [.int (nI a9), .int (nI q9)] (fun _ => True)) (vp_Si (fun r9 => r9 = nI (a9 ^ (q9 - 2) % q9))) 0 0 (fun _ => False) := by
  refine Met.ofW (cc := cX0_inverse) (maxL := 2) (ret := (some .int)) (by decide) rfl ?_
  intro p e s m args below meth c s₁ B hml hv
  obtain ⟨rfl, -⟩ := hv
  have hx := B.exec
  have hb := B.bytes
  have hr := B.returns
  have hts := atoms_spec (ws := wsX0_inverse) B.pre
  have hown : s.vm.findClass RX0 = some m.cls := findClass_of_methodNamed B.named
  have hlocks := B.notSynchronized
  have hl := lv_entry ([.int (nI a9), .int (nI q9)]) (n := 2) (Nat.le_of_ble_eq_true rfl)
  rw [lg_entry_eq]
  generalize (lg_sl ([.int (nI a9), .int (nI q9)]) ++ List.replicate (2 - (lg_sl ([.int (nI a9), .int (nI q9)])).length) Slot.unset).toArray = ls at hl ⊢
  have hl : lv_has ls 2 [(0, .int (nI a9)), (1, .int (nI q9))] := hl
  refine lv_iload_n hx hb dX0_inverse_0 rfl (lv_at hl 0 rfl) ?_
  refine lv_iload_n hx hb dX0_inverse_1 rfl (lv_at hl 1 rfl) ?_
  refine lv_iconst (v := 2) hx hb dX0_inverse_2 (by decide) ?_
  refine lv_isub hx hb dX0_inverse_3 ?_
  refine lv_topi (fun v_3 ev_3 => ?_)
  have ev_3 : v_3 = nI (q9 - 2) := ev_3.trans (pk_sub (b := 2) hq0)
  subst ev_3
  refine lv_iload_n hx hb dX0_inverse_4 rfl (lv_at hl 1 rfl) ?_
  refine vp_callSi (W.runS (As := [.int (nI a9), .int (nI (q9 - 2)), .int (nI q9)]) (rest := []) ⟨hx, hb, hml, hown, hts⟩ (dk_c_power l a9 (q9 - 2) q9 ha9 (by omega) hq0 hq9) (va_cwS 3 hts gX0_inverse_X0_power rfl rfl rfl (by decide +kernel) ⟨Nat.le_of_ble_eq_true rfl, Nat.le_of_ble_eq_true rfl⟩) ⟨fun _ _ _ _ q9 => q9, fun U hU hW => ⟨rfl, trivial⟩⟩ rfl rfl hl.1 rfl (lv_room (Nat.le_of_ble_eq_true rfl)) dX0_inverse_5 ⟨Nat.le_of_ble_eq_true rfl, Nat.le_of_ble_eq_true rfl⟩) (fun r_5 hr_5 => ?_)
  subst hr_5
  exact W.iret (v := (nI (a9 ^ (q9 - 2) % q9))) hx hb hr (fun t ht hW => ⟨_, rfl, rfl, ht⟩) (fun q h => nomatch h) dX0_inverse_8

set_option maxHeartbeats 4000000 in
set_option maxRecDepth 100000 in
theorem dk_c_orderFrom (l : Launch) (sd : Int64) : Met l yX0_orderFrom wsX0_orderFrom ({ frames := 1, cells := 0, slots := 0, locals := 25 }) (va_Pc [.long sd] (fun _ => True)) (vp_Si (fun r9 => r9 = nI (dk_q sd))) 0 0 (fun _ => False) := by
  refine Met.ofW (cc := cX0_orderFrom) (maxL := 2) (ret := (some .int)) (by decide) rfl ?_
  intro p e s m args below meth c s₁ B hml hv
  obtain ⟨rfl, -⟩ := hv
  have hx := B.exec
  have hb := B.bytes
  have hr := B.returns
  have hts := atoms_spec (ws := wsX0_orderFrom) B.pre
  have hown : s.vm.findClass RX0 = some m.cls := findClass_of_methodNamed B.named
  have hlocks := B.notSynchronized
  have hl := lv_entry ([.long sd]) (n := 2) (Nat.le_of_ble_eq_true rfl)
  rw [lg_entry_eq]
  generalize (lg_sl ([.long sd]) ++ List.replicate (2 - (lg_sl ([.long sd])).length) Slot.unset).toArray = ls at hl ⊢
  have hl : lv_has ls 2 [(0, .long sd)] := hl
  refine lv_sipush (v := 16385) hx hb dX0_orderFrom_0 (by decide) ?_
  refine lv_iconst (v := 2) hx hb dX0_orderFrom_3 (by decide) ?_
  refine lv_lload_n hx hb dX0_orderFrom_4 rfl (lv_at hl 0 rfl) ?_
  refine lv_lconst (v := 0) hx hb dX0_orderFrom_5 (by decide) ?_
  refine vp_callSl (W.runS (As := [.long sd, .long 0]) (rest := [.int 2, .int 16385]) ⟨hx, hb, hml, hown, hts⟩ (dk_c_mix l sd 0) (va_cwS 2 hts gX0_orderFrom_X0_mix rfl rfl rfl (by decide +kernel) ⟨Nat.le_of_ble_eq_true rfl, Nat.le_of_ble_eq_true rfl⟩) ⟨fun _ _ _ _ q9 => q9, fun U hU hW => ⟨rfl, trivial⟩⟩ rfl rfl hl.1 rfl (lv_room (Nat.le_of_ble_eq_true rfl)) dX0_orderFrom_6 ⟨Nat.le_of_ble_eq_true rfl, Nat.le_of_ble_eq_true rfl⟩) (fun r_6 hr_6 => ?_)
  subst hr_6
  refine lv_bipush (v := 51) hx hb dX0_orderFrom_9 (by decide) ?_
  refine lv_lushr hx hb dX0_orderFrom_11 rfl ?_
  refine lv_topl (fun v_11 ev_11 => ?_)
  have ev_11 : v_11 = lN (dk_hN sd 0 / 2251799813685248) := ev_11.trans (dk_hus sd 0 (k := 51) (by decide))
  subst ev_11
  refine lv_l2i hx hb dX0_orderFrom_12 rfl ?_
  refine lv_topi (fun v_12 ev_12 => ?_)
  have ev_12 : v_12 = nI (dk_hN sd 0 / 2251799813685248) := ev_12.trans (lN_i _)
  subst ev_12
  refine lv_imul hx hb dX0_orderFrom_13 ?_
  refine lv_topi (fun v_13 ev_13 => ?_)
  have ev_13 : v_13 = nI (2 * (dk_hN sd 0 / 2251799813685248)) := ev_13.trans (pk_mul 2 _)
  subst ev_13
  refine lv_iadd hx hb dX0_orderFrom_14 ?_
  refine lv_topi (fun v_14 ev_14 => ?_)
  have ev_14 : v_14 = nI (dk_q sd) := ev_14.trans (nI_add 16385 _)
  subst ev_14
  exact W.iret (v := (nI (dk_q sd))) hx hb hr (fun t ht hW => ⟨_, rfl, rfl, ht⟩) (fun q h => nomatch h) dX0_orderFrom_15

set_option maxHeartbeats 4000000 in
set_option maxRecDepth 100000 in
theorem dk_c_fieldTry (l : Launch) (sd : Int64) (n9 : Nat) (hn9 : n9 < 64) : Met l yX0_fieldTry wsX0_fieldTry ({ frames := 1, cells := 0, slots := 0, locals := 25 }) (va_Pc [.long sd, .int (nI (dk_q sd)), .int (nI n9)] (fun _ => True)) (vp_Si (fun r9 => r9 = nI (dk_try sd n9))) 0 0 (fun _ => False) := by
  refine Met.ofW (cc := cX0_fieldTry) (maxL := 6) (ret := (some .int)) (by decide) rfl ?_
  intro p e s m args below meth c s₁ B hml hv
  obtain ⟨rfl, -⟩ := hv
  have hx := B.exec
  have hb := B.bytes
  have hr := B.returns
  have hts := atoms_spec (ws := wsX0_fieldTry) B.pre
  have hown : s.vm.findClass RX0 = some m.cls := findClass_of_methodNamed B.named
  have hlocks := B.notSynchronized
  have hl := lv_entry ([.long sd, .int (nI (dk_q sd)), .int (nI n9)]) (n := 6) (Nat.le_of_ble_eq_true rfl)
  rw [lg_entry_eq]
  generalize (lg_sl ([.long sd, .int (nI (dk_q sd)), .int (nI n9)]) ++ List.replicate (6 - (lg_sl ([.long sd, .int (nI (dk_q sd)), .int (nI n9)])).length) Slot.unset).toArray = ls at hl ⊢
  have hl : lv_has ls 6 [(0, .long sd), (2, .int (nI (dk_q sd))), (3, .int (nI n9))] := hl
  have hq := dk_q_in sd
  have hX9 := dk_X_in sd n9
  refine lv_ldc2 (v := 1073741824) hx hb hown (hts (.constantLong RX0 136 1073741824) (by decide +kernel)) dX0_fieldTry_0 ?_
  refine lv_lload_n hx hb dX0_fieldTry_3 rfl (lv_at hl 0 rfl) ?_
  refine lv_iconst (v := 1) hx hb dX0_fieldTry_4 (by decide) ?_
  refine lv_iload_n hx hb dX0_fieldTry_5 rfl (lv_at hl 2 rfl) ?_
  refine lv_iadd hx hb dX0_fieldTry_6 ?_
  refine lv_topi (fun v_6 ev_6 => ?_)
  have ev_6 : v_6 = nI (1 + n9) := ev_6.trans (nI_add 1 n9)
  subst ev_6
  refine lv_i2l hx hb dX0_fieldTry_7 rfl ?_
  refine lv_topl (fun v_7 ev_7 => ?_)
  have ev_7 : v_7 = lN (1 + n9) := ev_7.trans (nI_l (by omega))
  subst ev_7
  refine vp_callSl (W.runS (As := [.long sd, .long (lN (1 + n9))]) (rest := [.long 1073741824]) ⟨hx, hb, hml, hown, hts⟩ (dk_c_mix l sd (lN (1 + n9))) (va_cwS 2 hts gX0_fieldTry_X0_mix rfl rfl rfl (by decide +kernel) ⟨Nat.le_of_ble_eq_true rfl, Nat.le_of_ble_eq_true rfl⟩) ⟨fun _ _ _ _ q9 => q9, fun U hU hW => ⟨rfl, trivial⟩⟩ rfl rfl hl.1 rfl (lv_room (Nat.le_of_ble_eq_true rfl)) dX0_fieldTry_8 ⟨Nat.le_of_ble_eq_true rfl, Nat.le_of_ble_eq_true rfl⟩) (fun r_8 hr_8 => ?_)
  subst hr_8
  refine lv_bipush (v := 34) hx hb dX0_fieldTry_11 (by decide) ?_
  refine lv_lushr hx hb dX0_fieldTry_13 rfl ?_
  refine lv_topl (fun v_13 ev_13 => ?_)
  have ev_13 : v_13 = lN (dk_hN sd (lN (1 + n9)) / 17179869184) := ev_13.trans (dk_hus sd _ (k := 34) (by decide))
  subst ev_13
  refine lv_ladd hx hb dX0_fieldTry_14 ?_
  refine lv_topl (fun v_14 ev_14 => ?_)
  have ev_14 : v_14 = lN (dk_X sd n9) := ev_14.trans (lN_add 1073741824 _)
  subst ev_14
  refine lv_lstore (lv' := [(4, .long (lN (dk_X sd n9))), (0, .long sd), (2, .int (nI (dk_q sd))), (3, .int (nI n9))]) hx hb dX0_fieldTry_15 hl (by decide) rfl (fun ls hl => ?_)
  refine lv_lload hx hb dX0_fieldTry_17 (lv_at hl 0 rfl) ?_
  refine lv_lload hx hb dX0_fieldTry_19 (lv_at hl 0 rfl) ?_
  refine lv_iconst (v := 2) hx hb dX0_fieldTry_21 (by decide) ?_
  refine lv_iload_n hx hb dX0_fieldTry_22 rfl (lv_at hl 2 rfl) ?_
  refine lv_imul hx hb dX0_fieldTry_23 ?_
  refine lv_topi (fun v_23 ev_23 => ?_)
  have ev_23 : v_23 = nI (2 * dk_q sd) := ev_23.trans (pk_mul 2 _)
  subst ev_23
  refine lv_i2l hx hb dX0_fieldTry_24 rfl ?_
  refine lv_topl (fun v_24 ev_24 => ?_)
  have ev_24 : v_24 = lN (2 * dk_q sd) := ev_24.trans (nI_l (by omega))
  subst ev_24
  refine lv_lrem hx hb dX0_fieldTry_25 (dk_lne (by omega) (by omega)) ?_
  refine lv_topl (fun v_25 ev_25 => ?_)
  have ev_25 : v_25 = lN (dk_X sd n9 % (2 * dk_q sd)) := ev_25.trans (pk_lRem (by omega) (by omega) (by omega))
  subst ev_25
  refine lv_lsub hx hb dX0_fieldTry_26 ?_
  refine lv_topl (fun v_26 ev_26 => ?_)
  have ev_26 : v_26 = lN (dk_X sd n9 - dk_X sd n9 % (2 * dk_q sd)) := ev_26.trans (lN_sub (Nat.mod_le _ _))
  subst ev_26
  refine lv_lconst (v := 1) hx hb dX0_fieldTry_27 (by decide) ?_
  refine lv_ladd hx hb dX0_fieldTry_28 ?_
  refine lv_topl (fun v_28 ev_28 => ?_)
  have ev_28 : v_28 = lN (dk_try sd n9) := ev_28.trans (lN_1 _)
  subst ev_28
  refine lv_l2i hx hb dX0_fieldTry_29 rfl ?_
  refine lv_topi (fun v_29 ev_29 => ?_)
  have ev_29 : v_29 = nI (dk_try sd n9) := ev_29.trans (lN_i _)
  subst ev_29
  exact W.iret (v := (nI (dk_try sd n9))) hx hb hr (fun t ht hW => ⟨_, rfl, rfl, ht⟩) (fun q h => nomatch h) dX0_fieldTry_30

set_option maxHeartbeats 4000000 in
set_option maxRecDepth 100000 in
theorem dk_counterFrom_loop {p : Program} {l : Launch} {e : Env} {s : State} {m : MethodId} {args : Array Value} {below : List Frame} {meth : Method} {c : Code} {H : Heap} {locs : List Loc} {cells slots : Nat} {Q : State → Prop} (hx : p.tables.exec = Jvm.exec) (hb : c.code = cX0_counterFrom) (hml : c.maxLocals = 5) (hown : s.vm.findClass RX0 = some m.cls) (hts : ∀ w ∈ wsX0_counterFrom, w.before args s = true) (hcs : cells ≤ 0 ∧ slots ≤ 0) (sd : Int64) (k1 : ∀ (pc : Nat) (r : Int32) (ls : Array Slot), (pc = 46 ∧ ∃ k9, k9 < 64 ∧ dk_ok sd k9 ∧ (∀ j, j < k9 → ¬ dk_ok sd j) ∧ r = nI k9) ∨ (pc = 55 ∧ (∀ j, j < 64 → ¬ dk_ok sd j) ∧ r = -2) → W p l e (headSpec wsX0_counterFrom ({ frames := 2, cells := 0, slots := 0, locals := 50 })).room s m args below meth c H locs cells slots Q (F0 m pc ls [.int r])) :
    ∀ (n k9 : Nat) (ls : Array Slot), 65 ≤ k9 + n → k9 ≤ 64 → (∀ j, j < k9 → ¬ dk_ok sd j) → lv_has ls 5 [(0, .long sd), (2, .int (nI (dk_q sd))), (3, .int (nI k9))] → W p l e (headSpec wsX0_counterFrom ({ frames := 2, cells := 0, slots := 0, locals := 50 })).room s m args below meth c H locs cells slots Q (F0 m 16 ls []) := by
  obtain ⟨hcs1, hcs2⟩ := hcs
  have e1 : cells = 0 := by omega
  have e2 : slots = 0 := by omega
  subst e1 e2
  intro n
  induction n with
  | zero =>
    intro k9 ls h1 h2
    exact absurd h1 (by omega)
  | succ n ih =>
    intro k9 ls h1 h2 h3 hl
    refine lv_iload_n hx hb dX0_counterFrom_16 rfl (lv_at hl 2 rfl) ?_
    refine lv_bipush (v := 64) hx hb dX0_counterFrom_17 (by decide) ?_
    refine lv_icmp_ge (tgt := 53) hx hb dX0_counterFrom_19 (by decide) (fun c_19 => ?_) (fun c_19 => ?_)
    · have hk9 : 64 ≤ k9 := (nI_leI (by omega) (by omega)).mp c_19
      refine lv_bipush (v := (-2)) hx hb dX0_counterFrom_53 (by decide) ?_
      exact k1 55 _ ls (Or.inr ⟨rfl, fun j hj => h3 j (by omega), rfl⟩)
    · have hk9 : k9 < 64 := by
        rcases Nat.lt_or_ge k9 64 with q | q
        · exact q
        · exact absurd ((nI_leI (a := 64) (b := k9) (by omega) (by omega)).mpr q) c_19
      have htr := dk_try_in sd k9
      refine lv_lload_n hx hb dX0_counterFrom_22 rfl (lv_at hl 0 rfl) ?_
      refine lv_iload_n hx hb dX0_counterFrom_23 rfl (lv_at hl 1 rfl) ?_
      refine lv_iload_n hx hb dX0_counterFrom_24 rfl (lv_at hl 2 rfl) ?_
      refine vp_callSi (W.runS (As := [.long sd, .int (nI (dk_q sd)), .int (nI k9)]) (rest := []) ⟨hx, hb, hml, hown, hts⟩ (dk_c_fieldTry l sd k9 hk9) (va_cwS 3 hts gX0_counterFrom_X0_fieldTry rfl rfl rfl (by decide +kernel) ⟨Nat.le_of_ble_eq_true rfl, Nat.le_of_ble_eq_true rfl⟩) ⟨fun _ _ _ _ q9 => q9, fun U hU hW => ⟨rfl, trivial⟩⟩ rfl rfl hl.1 rfl (lv_room (Nat.le_of_ble_eq_true rfl)) dX0_counterFrom_25 ⟨Nat.le_of_ble_eq_true rfl, Nat.le_of_ble_eq_true rfl⟩) (fun r_25 hr_25 => ?_)
      subst hr_25
      refine lv_istore (lv' := [(4, .int (nI (dk_try sd k9))), (0, .long sd), (2, .int (nI (dk_q sd))), (3, .int (nI k9))]) hx hb dX0_counterFrom_28 hl (by decide) rfl (fun ls hl => ?_)
      refine lv_iload hx hb dX0_counterFrom_30 (lv_at hl 0 rfl) ?_
      refine lv_ldc (v := 1073741824) hx hb hown (hts (.constant RX0 135 1073741824) (by decide +kernel)) dX0_counterFrom_32 ?_
      refine lv_icmp_le (tgt := 47) hx hb dX0_counterFrom_34 (by decide) (fun c_34 => ?_) (fun c_34 => ?_)
      · have hno : ¬ dk_ok sd k9 := fun q => by
          have q1 := (nI_leI (a := dk_try sd k9) (b := 1073741824) (by omega) (by omega)).mp c_34
          have q2 := q.1
          omega
        refine lv_iinc (v := (nI (k9 + 1))) (lv' := [(3, .int (nI (k9 + 1))), (4, .int (nI (dk_try sd k9))), (0, .long sd), (2, .int (nI (dk_q sd)))]) hx hb dX0_counterFrom_47 hl (k := 3) rfl (nI_1 k9) (by decide) rfl (fun ls hl => ?_)
        refine lv_goto (tgt := 16) hx hb dX0_counterFrom_50 (by decide) ?_
        exact ih (k9 + 1) ls (by omega) (by omega) (fun j hj => if q : j < k9 then h3 j q else by rw [show j = k9 by omega]; exact hno) (lv_sub hl [2, 3, 0] rfl)
      · have hgt : 1073741824 < dk_try sd k9 := by
          rcases Nat.lt_or_ge 1073741824 (dk_try sd k9) with q | q
          · exact q
          · exact absurd ((nI_leI (a := dk_try sd k9) (b := 1073741824) (by omega) (by omega)).mpr q) c_34
        refine lv_iload hx hb dX0_counterFrom_37 (lv_at hl 0 rfl) ?_
        refine vp_callSi (W.runS (As := [.int (nI (dk_try sd k9))]) (rest := []) ⟨hx, hb, hml, hown, hts⟩ (dk_c_isPrime l (dk_try sd k9) htr.2) (va_cwS 1 hts gX0_counterFrom_X0_isPrime rfl rfl rfl (by decide +kernel) ⟨Nat.le_of_ble_eq_true rfl, Nat.le_of_ble_eq_true rfl⟩) ⟨fun _ _ _ _ q9 => q9, fun U hU hW => ⟨rfl, trivial⟩⟩ rfl rfl hl.1 rfl (lv_room (Nat.le_of_ble_eq_true rfl)) dX0_counterFrom_39 ⟨Nat.le_of_ble_eq_true rfl, Nat.le_of_ble_eq_true rfl⟩) (fun r_39 hr_39 => ?_)
        refine lv_if_eq (tgt := 47) hx hb dX0_counterFrom_42 (by decide) (fun c_42 => ?_) (fun c_42 => ?_)
        · have hno : ¬ dk_ok sd k9 := fun q => by
            rcases hr_39 with ⟨q1, -⟩ | ⟨-, q1⟩
            · rw [q1] at c_42; exact absurd c_42 (by decide)
            · exact q1 q.2
          refine lv_iinc (v := (nI (k9 + 1))) (lv' := [(3, .int (nI (k9 + 1))), (4, .int (nI (dk_try sd k9))), (0, .long sd), (2, .int (nI (dk_q sd)))]) hx hb dX0_counterFrom_47 hl (k := 3) rfl (nI_1 k9) (by decide) rfl (fun ls hl => ?_)
          refine lv_goto (tgt := 16) hx hb dX0_counterFrom_50 (by decide) ?_
          exact ih (k9 + 1) ls (by omega) (by omega) (fun j hj => if q : j < k9 then h3 j q else by rw [show j = k9 by omega]; exact hno) (lv_sub hl [2, 3, 0] rfl)
        · have hok : dk_ok sd k9 := by
            rcases hr_39 with ⟨-, q1⟩ | ⟨q1, -⟩
            · exact ⟨hgt, q1⟩
            · exact absurd q1 c_42
          refine lv_iload_n hx hb dX0_counterFrom_45 rfl (lv_at hl 3 rfl) ?_
          exact k1 46 _ ls (Or.inl ⟨rfl, k9, hk9, hok, h3, rfl⟩)

set_option maxHeartbeats 4000000 in
set_option maxRecDepth 100000 in
theorem dk_c_counterFrom (l : Launch) (sd : Int64) : Met l yX0_counterFrom wsX0_counterFrom ({ frames := 2, cells := 0, slots := 0, locals := 50 }) (va_Pc [.long sd] (fun _ => True)) (vp_Si (fun r9 => dk_Mk sd r9)) 0 0 (fun _ => False) := by
  refine Met.ofW (cc := cX0_counterFrom) (maxL := 5) (ret := (some .int)) (by decide) rfl ?_
  intro p e s m args below meth c s₁ B hml hv
  obtain ⟨rfl, -⟩ := hv
  have hx := B.exec
  have hb := B.bytes
  have hr := B.returns
  have hts := atoms_spec (ws := wsX0_counterFrom) B.pre
  have hown : s.vm.findClass RX0 = some m.cls := findClass_of_methodNamed B.named
  have hlocks := B.notSynchronized
  have hl := lv_entry ([.long sd]) (n := 5) (Nat.le_of_ble_eq_true rfl)
  rw [lg_entry_eq]
  generalize (lg_sl ([.long sd]) ++ List.replicate (5 - (lg_sl ([.long sd])).length) Slot.unset).toArray = ls at hl ⊢
  have hl : lv_has ls 5 [(0, .long sd)] := hl
  refine lv_lload_n hx hb dX0_counterFrom_0 rfl (lv_at hl 0 rfl) ?_
  refine vp_callSi (W.runS (As := [.long sd]) (rest := []) ⟨hx, hb, hml, hown, hts⟩ (dk_c_orderFrom l sd) (va_cwS 1 hts gX0_counterFrom_X0_orderFrom rfl rfl rfl (by decide +kernel) ⟨Nat.le_of_ble_eq_true rfl, Nat.le_of_ble_eq_true rfl⟩) ⟨fun _ _ _ _ q9 => q9, fun U hU hW => ⟨rfl, trivial⟩⟩ rfl rfl hl.1 rfl (lv_room (Nat.le_of_ble_eq_true rfl)) dX0_counterFrom_1 ⟨Nat.le_of_ble_eq_true rfl, Nat.le_of_ble_eq_true rfl⟩) (fun r_1 hr_1 => ?_)
  subst hr_1
  refine lv_istore_n (lv' := [(2, .int (nI (dk_q sd))), (0, .long sd)]) hx hb dX0_counterFrom_4 rfl hl (by decide) rfl (fun ls hl => ?_)
  refine lv_iload_n hx hb dX0_counterFrom_5 rfl (lv_at hl 0 rfl) ?_
  refine vp_callSi (W.runS (As := [.int (nI (dk_q sd))]) (rest := []) ⟨hx, hb, hml, hown, hts⟩ (dk_c_isPrime l (dk_q sd) (by have := dk_q_in sd; omega)) (va_cwS 1 hts gX0_counterFrom_X0_isPrime rfl rfl rfl (by decide +kernel) ⟨Nat.le_of_ble_eq_true rfl, Nat.le_of_ble_eq_true rfl⟩) ⟨fun _ _ _ _ q9 => q9, fun U hU hW => ⟨rfl, trivial⟩⟩ rfl rfl hl.1 rfl (lv_room (Nat.le_of_ble_eq_true rfl)) dX0_counterFrom_6 ⟨Nat.le_of_ble_eq_true rfl, Nat.le_of_ble_eq_true rfl⟩) (fun r_6 hr_6 => ?_)
  refine lv_if_ne (tgt := 14) hx hb dX0_counterFrom_9 (by decide) (fun c_9 => ?_) (fun c_9 => ?_)
  · have hpq : dk_pr (dk_q sd) := by
      rcases hr_6 with ⟨-, q⟩ | ⟨q, -⟩
      · exact q
      · exact absurd q c_9
    refine lv_iconst (v := 0) hx hb dX0_counterFrom_14 (by decide) ?_
    refine lv_istore_n (lv' := [(3, .int 0), (2, .int (nI (dk_q sd))), (0, .long sd)]) hx hb dX0_counterFrom_15 rfl hl (by decide) rfl (fun ls hl => ?_)
    refine dk_counterFrom_loop hx hb hml hown hts ⟨Nat.le_refl _, Nat.le_refl _⟩ sd (fun pc r ls hpc => ?_) 65 0 ls (by omega) (by omega) (fun j hj => absurd hj (by omega)) (lv_sub hl [2, 1, 0] rfl)
    rcases hpc with ⟨rfl, k9, q1, q2, q3, rfl⟩ | ⟨rfl, q1, rfl⟩
    · exact W.iret (v := (nI k9)) hx hb hr (fun t ht hW => ⟨_, rfl, Or.inr (Or.inl ⟨hpq, k9, q1, q2, q3, rfl⟩), ht⟩) (fun q h => nomatch h) dX0_counterFrom_46
    · exact W.iret (v := (-2)) hx hb hr (fun t ht hW => ⟨_, rfl, Or.inr (Or.inr ⟨hpq, q1, rfl⟩), ht⟩) (fun q h => nomatch h) dX0_counterFrom_55
  · have hpq : ¬ dk_pr (dk_q sd) := by
      rcases hr_6 with ⟨q, -⟩ | ⟨-, q⟩
      · rw [q] at c_9; exact absurd c_9 (by decide)
      · exact q
    refine lv_iconst (v := (-1)) hx hb dX0_counterFrom_12 (by decide) ?_
    exact W.iret (v := (-1)) hx hb hr (fun t ht hW => ⟨_, rfl, Or.inl ⟨hpq, rfl⟩, ht⟩) (fun q h => nomatch h) dX0_counterFrom_13

set_option maxHeartbeats 4000000 in
set_option maxRecDepth 100000 in
theorem dk_c_isSlot (l : Launch) (x : Int32) : Met l yX0_isSlot wsX0_isSlot ({ frames := 0, cells := 0, slots := 0, locals := 0 }) (va_Pc [.int x] (fun _ => True)) (vp_Si (fun r9 => (r9 = 1 ∧ ∃ j : Nat, j < 8 ∧ x = nI j) ∨ (r9 = 0 ∧ ¬ ∃ j : Nat, j < 8 ∧ x = nI j))) 0 0 (fun _ => False) := by
  refine Met.ofW (cc := cX0_isSlot) (maxL := 1) (ret := (some .boolean)) (by decide) rfl ?_
  intro p e s m args below meth c s₁ B hml hv
  obtain ⟨rfl, -⟩ := hv
  have hx := B.exec
  have hb := B.bytes
  have hr := B.returns
  have hts := atoms_spec (ws := wsX0_isSlot) B.pre
  have hown : s.vm.findClass RX0 = some m.cls := findClass_of_methodNamed B.named
  have hlocks := B.notSynchronized
  have hl := lv_entry ([.int x]) (n := 1) (Nat.le_of_ble_eq_true rfl)
  rw [lg_entry_eq]
  generalize (lg_sl ([.int x]) ++ List.replicate (1 - (lg_sl ([.int x])).length) Slot.unset).toArray = ls at hl ⊢
  have hl : lv_has ls 1 [(0, .int x)] := hl
  refine lv_iload_n hx hb dX0_isSlot_0 rfl (lv_at hl 0 rfl) ?_
  refine lv_if_lt (tgt := 14) hx hb dX0_isSlot_1 (by decide) (fun c_1 => ?_) (fun c_1 => ?_)
  · have hno : ¬ ∃ j : Nat, j < 8 ∧ x = nI j := fun ⟨j, q1, q2⟩ => by rw [q2] at c_1; exact nI_pos (by omega) c_1
    refine lv_iconst (v := 0) hx hb dX0_isSlot_14 (by decide) ?_
    exact W.zret (v := 0) (ty := .boolean) hx hb hr rfl (fun t ht hW => ⟨_, rfl, Or.inr ⟨rfl, hno⟩, ht⟩) (fun q h => nomatch h) dX0_isSlot_15
  · refine lv_iload_n hx hb dX0_isSlot_4 rfl (lv_at hl 0 rfl) ?_
    refine lv_bipush (v := 8) hx hb dX0_isSlot_5 (by decide) ?_
    refine lv_icmp_ge (tgt := 14) hx hb dX0_isSlot_7 (by decide) (fun c_7 => ?_) (fun c_7 => ?_)
    · have hno : ¬ ∃ j : Nat, j < 8 ∧ x = nI j := fun ⟨j, q1, q2⟩ => by rw [q2] at c_7; exact nI_ge (a := j) (b := 8) q1 (by decide) c_7
      refine lv_iconst (v := 0) hx hb dX0_isSlot_14 (by decide) ?_
      exact W.zret (v := 0) (ty := .boolean) hx hb hr rfl (fun t ht hW => ⟨_, rfl, Or.inr ⟨rfl, hno⟩, ht⟩) (fun q h => nomatch h) dX0_isSlot_15
    · have hyes : ∃ j : Nat, j < 8 ∧ x = nI j := by
        rcases pk_ix x (n := 8) (by decide) with q | q | q
        · exact absurd q c_1
        · exact absurd q c_7
        · exact q
      refine lv_iconst (v := 1) hx hb dX0_isSlot_10 (by decide) ?_
      refine lv_goto (tgt := 15) hx hb dX0_isSlot_11 (by decide) ?_
      exact W.zret (v := 1) (ty := .boolean) hx hb hr rfl (fun t ht hW => ⟨_, rfl, Or.inl ⟨rfl, hyes⟩, ht⟩) (fun q h => nomatch h) dX0_isSlot_15

def dk_dom (P Q G : Nat) : Prop := dk_pr P ∧ dk_pr Q ∧ 3 ≤ Q ∧ (P - 1) % Q = 0 ∧ 2 ≤ G ∧ G < P ∧ G ^ Q % P = 1
def dk_domI (x y z : Int32) : Prop := ∃ P Q G : Nat, P < 2147483648 ∧ Q < 2147483648 ∧ x = nI P ∧ y = nI Q ∧ z = nI G ∧ dk_dom P Q G

set_option maxHeartbeats 4000000 in
set_option maxRecDepth 100000 in
theorem dk_c_isDomain (l : Launch) (x y z : Int32) : Met l yX0_isDomain wsX0_isDomain ({ frames := 1, cells := 0, slots := 0, locals := 25 }) (va_Pc [.int x, .int y, .int z] (fun _ => True)) (vp_Si (fun r9 => (r9 = 1 ∧ dk_domI x y z) ∨ (r9 = 0 ∧ ¬ dk_domI x y z))) 0 0 (fun _ => False) := by
  refine Met.ofW (cc := cX0_isDomain) (maxL := 3) (ret := (some .boolean)) (by decide) rfl ?_
  intro p e s m args below meth c s₁ B hml hv
  obtain ⟨rfl, -⟩ := hv
  have hx := B.exec
  have hb := B.bytes
  have hr := B.returns
  have hts := atoms_spec (ws := wsX0_isDomain) B.pre
  have hown : s.vm.findClass RX0 = some m.cls := findClass_of_methodNamed B.named
  have hlocks := B.notSynchronized
  have hl := lv_entry ([.int x, .int y, .int z]) (n := 3) (Nat.le_of_ble_eq_true rfl)
  rw [lg_entry_eq]
  generalize (lg_sl ([.int x, .int y, .int z]) ++ List.replicate (3 - (lg_sl ([.int x, .int y, .int z])).length) Slot.unset).toArray = ls at hl ⊢
  have hl : lv_has ls 3 [(0, .int x), (1, .int y), (2, .int z)] := hl
  refine lv_iload_n hx hb dX0_isDomain_0 rfl (lv_at hl 1 rfl) ?_
  refine lv_iconst (v := 3) hx hb dX0_isDomain_1 (by decide) ?_
  refine lv_icmp_lt (tgt := 15) hx hb dX0_isDomain_2 (by decide) (fun c_2 => ?_) (fun c_2 => ?_)
  · have hno : ¬ dk_domI x y z := fun ⟨P1, Q1, G1, z1, z2, e1, e2, e3, d1, d2, d3, d4, d5, d6, d7⟩ => by
      rw [e2] at c_2
      have := (nI_ltI (a := Q1) (b := 3) z2 (by decide)).mp c_2
      omega
    refine lv_iconst (v := 0) hx hb dX0_isDomain_15 (by decide) ?_
    exact W.zret (v := 0) (ty := .boolean) hx hb hr rfl (fun t ht hW => ⟨_, rfl, Or.inr ⟨rfl, hno⟩, ht⟩) (fun q h => nomatch h) dX0_isDomain_16
  · refine lv_iload_n hx hb dX0_isDomain_5 rfl (lv_at hl 2 rfl) ?_
    refine lv_iconst (v := 2) hx hb dX0_isDomain_6 (by decide) ?_
    refine lv_icmp_lt (tgt := 15) hx hb dX0_isDomain_7 (by decide) (fun c_7 => ?_) (fun c_7 => ?_)
    · have hno : ¬ dk_domI x y z := fun ⟨P1, Q1, G1, z1, z2, e1, e2, e3, d1, d2, d3, d4, d5, d6, d7⟩ => by
        rw [e3] at c_7
        have := (nI_ltI (a := G1) (b := 2) (by omega) (by decide)).mp c_7
        omega
      refine lv_iconst (v := 0) hx hb dX0_isDomain_15 (by decide) ?_
      exact W.zret (v := 0) (ty := .boolean) hx hb hr rfl (fun t ht hW => ⟨_, rfl, Or.inr ⟨rfl, hno⟩, ht⟩) (fun q h => nomatch h) dX0_isDomain_16
    · refine lv_iload_n hx hb dX0_isDomain_10 rfl (lv_at hl 2 rfl) ?_
      refine lv_iload_n hx hb dX0_isDomain_11 rfl (lv_at hl 0 rfl) ?_
      refine lv_icmp_lt (tgt := 17) hx hb dX0_isDomain_12 (by decide) (fun c_12 => ?_) (fun c_12 => ?_)
      · obtain ⟨Q9, hQ9, rfl⟩ := nI_of (x := y) (fun q => c_2 (Int32.lt_of_lt_of_le q (by decide)))
        obtain ⟨G, hG9, rfl⟩ := nI_of (x := z) (fun q => c_7 (Int32.lt_of_lt_of_le q (by decide)))
        obtain ⟨P, hP9, rfl⟩ := nI_of (x := x) (fun q => nI_pos hG9 (Int32.lt_trans c_12 q))
        have hQ3 : 3 ≤ Q9 := by
          rcases Nat.lt_or_ge Q9 3 with q | q
          · exact absurd ((nI_ltI (b := 3) hQ9 (by decide)).mpr q) c_2
          · exact q
        have hG2 : 2 ≤ G := by
          rcases Nat.lt_or_ge G 2 with q | q
          · exact absurd ((nI_ltI (b := 2) hG9 (by decide)).mpr q) c_7
          · exact q
        have hGP : G < P := (nI_ltI hG9 hP9).mp c_12
        refine lv_iload_n hx hb dX0_isDomain_17 rfl (lv_at hl 0 rfl) ?_
        refine lv_iconst (v := 1) hx hb dX0_isDomain_18 (by decide) ?_
        refine lv_isub hx hb dX0_isDomain_19 ?_
        refine lv_topi (fun v_19 ev_19 => ?_)
        have ev_19 : v_19 = nI (P - 1) := ev_19.trans (pk_sub (b := 1) (by omega))
        subst ev_19
        refine lv_iload_n hx hb dX0_isDomain_20 rfl (lv_at hl 1 rfl) ?_
        refine lv_irem hx hb dX0_isDomain_21 (nI_ne0 (by omega) hQ9) ?_
        refine lv_topi (fun v_21 ev_21 => ?_)
        have ev_21 : v_21 = nI ((P - 1) % Q9) := ev_21.trans (pk_rem (by omega) (by omega) hQ9)
        subst ev_21
        refine lv_if_ne (tgt := 53) hx hb dX0_isDomain_22 (by decide) (fun c_22 => ?_) (fun c_22 => ?_)
        · have hno : ¬ dk_domI (nI P) (nI Q9) (nI G) := fun ⟨P1, Q1, G1, z1, z2, e1, e2, e3, d1, d2, d3, d4, d5, d6, d7⟩ => by
            have f1 : P1 = P := (nI_eq z1 hP9).mp e1.symm
            have f2 : Q1 = Q9 := (nI_eq z2 hQ9).mp e2.symm
            have f3 : G1 = G := (nI_eq (by omega) hG9).mp e3.symm
            subst f1 f2 f3
            exact c_22 (by rw [d4]; rfl)
          refine lv_iconst (v := 0) hx hb dX0_isDomain_53 (by decide) ?_
          exact W.zret (v := 0) (ty := .boolean) hx hb hr rfl (fun t ht hW => ⟨_, rfl, Or.inr ⟨rfl, hno⟩, ht⟩) (fun q h => nomatch h) dX0_isDomain_54
        · have hlt : (P - 1) % Q9 < Q9 := Nat.mod_lt _ (by omega)
          have h22 : (P - 1) % Q9 = 0 := (nI_eq (by omega) (by decide)).mp c_22
          refine lv_iload_n hx hb dX0_isDomain_25 rfl (lv_at hl 1 rfl) ?_
          refine vp_callSi (W.runS (As := [.int (nI Q9)]) (rest := []) ⟨hx, hb, hml, hown, hts⟩ (dk_c_isPrime l Q9 hQ9) (va_cwS 1 hts gX0_isDomain_X0_isPrime rfl rfl rfl (by decide +kernel) ⟨Nat.le_of_ble_eq_true rfl, Nat.le_of_ble_eq_true rfl⟩) ⟨fun _ _ _ _ q9 => q9, fun U hU hW => ⟨rfl, trivial⟩⟩ rfl rfl hl.1 rfl (lv_room (Nat.le_of_ble_eq_true rfl)) dX0_isDomain_26 ⟨Nat.le_of_ble_eq_true rfl, Nat.le_of_ble_eq_true rfl⟩) (fun r_26 hr_26 => ?_)
          refine lv_if_eq (tgt := 53) hx hb dX0_isDomain_29 (by decide) (fun c_29 => ?_) (fun c_29 => ?_)
          · have hno : ¬ dk_domI (nI P) (nI Q9) (nI G) := fun ⟨P1, Q1, G1, z1, z2, e1, e2, e3, d1, d2, d3, d4, d5, d6, d7⟩ => by
              have f1 : P1 = P := (nI_eq z1 hP9).mp e1.symm
              have f2 : Q1 = Q9 := (nI_eq z2 hQ9).mp e2.symm
              have f3 : G1 = G := (nI_eq (by omega) hG9).mp e3.symm
              subst f1 f2 f3
              rcases hr_26 with ⟨q1, -⟩ | ⟨-, q1⟩
              · rw [q1] at c_29; exact absurd c_29 (by decide)
              · exact q1 d2
            refine lv_iconst (v := 0) hx hb dX0_isDomain_53 (by decide) ?_
            exact W.zret (v := 0) (ty := .boolean) hx hb hr rfl (fun t ht hW => ⟨_, rfl, Or.inr ⟨rfl, hno⟩, ht⟩) (fun q h => nomatch h) dX0_isDomain_54
          · have h29 : dk_pr Q9 := by
              rcases hr_26 with ⟨-, q1⟩ | ⟨q1, -⟩
              · exact q1
              · exact absurd q1 c_29
            refine lv_iload_n hx hb dX0_isDomain_32 rfl (lv_at hl 0 rfl) ?_
            refine vp_callSi (W.runS (As := [.int (nI P)]) (rest := []) ⟨hx, hb, hml, hown, hts⟩ (dk_c_isPrime l P hP9) (va_cwS 1 hts gX0_isDomain_X0_isPrime rfl rfl rfl (by decide +kernel) ⟨Nat.le_of_ble_eq_true rfl, Nat.le_of_ble_eq_true rfl⟩) ⟨fun _ _ _ _ q9 => q9, fun U hU hW => ⟨rfl, trivial⟩⟩ rfl rfl hl.1 rfl (lv_room (Nat.le_of_ble_eq_true rfl)) dX0_isDomain_33 ⟨Nat.le_of_ble_eq_true rfl, Nat.le_of_ble_eq_true rfl⟩) (fun r_33 hr_33 => ?_)
            refine lv_if_eq (tgt := 53) hx hb dX0_isDomain_36 (by decide) (fun c_36 => ?_) (fun c_36 => ?_)
            · have hno : ¬ dk_domI (nI P) (nI Q9) (nI G) := fun ⟨P1, Q1, G1, z1, z2, e1, e2, e3, d1, d2, d3, d4, d5, d6, d7⟩ => by
                have f1 : P1 = P := (nI_eq z1 hP9).mp e1.symm
                have f2 : Q1 = Q9 := (nI_eq z2 hQ9).mp e2.symm
                have f3 : G1 = G := (nI_eq (by omega) hG9).mp e3.symm
                subst f1 f2 f3
                rcases hr_33 with ⟨q1, -⟩ | ⟨-, q1⟩
                · rw [q1] at c_36; exact absurd c_36 (by decide)
                · exact q1 d1
              refine lv_iconst (v := 0) hx hb dX0_isDomain_53 (by decide) ?_
              exact W.zret (v := 0) (ty := .boolean) hx hb hr rfl (fun t ht hW => ⟨_, rfl, Or.inr ⟨rfl, hno⟩, ht⟩) (fun q h => nomatch h) dX0_isDomain_54
            · have h36 : dk_pr P := by
                rcases hr_33 with ⟨-, q1⟩ | ⟨q1, -⟩
                · exact q1
                · exact absurd q1 c_36
              refine lv_iload_n hx hb dX0_isDomain_39 rfl (lv_at hl 2 rfl) ?_
              refine lv_iload_n hx hb dX0_isDomain_40 rfl (lv_at hl 1 rfl) ?_
              refine lv_iload_n hx hb dX0_isDomain_41 rfl (lv_at hl 0 rfl) ?_
              refine vp_callSi (W.runS (As := [.int (nI G), .int (nI Q9), .int (nI P)]) (rest := []) ⟨hx, hb, hml, hown, hts⟩ (dk_c_power l G Q9 P hG9 hQ9 (by omega) hP9) (va_cwS 3 hts gX0_isDomain_X0_power rfl rfl rfl (by decide +kernel) ⟨Nat.le_of_ble_eq_true rfl, Nat.le_of_ble_eq_true rfl⟩) ⟨fun _ _ _ _ q9 => q9, fun U hU hW => ⟨rfl, trivial⟩⟩ rfl rfl hl.1 rfl (lv_room (Nat.le_of_ble_eq_true rfl)) dX0_isDomain_42 ⟨Nat.le_of_ble_eq_true rfl, Nat.le_of_ble_eq_true rfl⟩) (fun r_42 hr_42 => ?_)
              subst hr_42
              refine lv_iconst (v := 1) hx hb dX0_isDomain_45 (by decide) ?_
              refine lv_icmp_ne (tgt := 53) hx hb dX0_isDomain_46 (by decide) (fun c_46 => ?_) (fun c_46 => ?_)
              · have hno : ¬ dk_domI (nI P) (nI Q9) (nI G) := fun ⟨P1, Q1, G1, z1, z2, e1, e2, e3, d1, d2, d3, d4, d5, d6, d7⟩ => by
                  have f1 : P1 = P := (nI_eq z1 hP9).mp e1.symm
                  have f2 : Q1 = Q9 := (nI_eq z2 hQ9).mp e2.symm
                  have f3 : G1 = G := (nI_eq (by omega) hG9).mp e3.symm
                  subst f1 f2 f3
                  exact c_46 (by rw [d7]; rfl)
                refine lv_iconst (v := 0) hx hb dX0_isDomain_53 (by decide) ?_
                exact W.zret (v := 0) (ty := .boolean) hx hb hr rfl (fun t ht hW => ⟨_, rfl, Or.inr ⟨rfl, hno⟩, ht⟩) (fun q h => nomatch h) dX0_isDomain_54
              · have hlt2 : G ^ Q9 % P < P := Nat.mod_lt _ (by omega)
                have hyes : dk_domI (nI P) (nI Q9) (nI G) := ⟨P, Q9, G, hP9, hQ9, rfl, rfl, rfl, h36, h29, hQ3, h22, hG2, hGP, (nI_eq (by omega) (by decide)).mp c_46⟩
                refine lv_iconst (v := 1) hx hb dX0_isDomain_49 (by decide) ?_
                refine lv_goto (tgt := 54) hx hb dX0_isDomain_50 (by decide) ?_
                exact W.zret (v := 1) (ty := .boolean) hx hb hr rfl (fun t ht hW => ⟨_, rfl, Or.inl ⟨rfl, hyes⟩, ht⟩) (fun q h => nomatch h) dX0_isDomain_54
      · have hno : ¬ dk_domI x y z := fun ⟨P1, Q1, G1, z1, z2, e1, e2, e3, d1, d2, d3, d4, d5, d6, d7⟩ => by
          rw [e1, e3] at c_12
          exact c_12 ((nI_ltI (by omega) z1).mpr d6)
        refine lv_iconst (v := 0) hx hb dX0_isDomain_15 (by decide) ?_
        exact W.zret (v := 0) (ty := .boolean) hx hb hr rfl (fun t ht hW => ⟨_, rfl, Or.inr ⟨rfl, hno⟩, ht⟩) (fun q h => nomatch h) dX0_isDomain_16
end
section
set_option maxHeartbeats 4000000 in
set_option maxRecDepth 100000 in
theorem dk_m_h (l : Launch) (a b : Int64) : Met l yX1_h wsX1_h ({ frames := 0, cells := 0, slots := 0, locals := 0 }) (va_Pc [.long a, .long b] (fun _ => True)) (vp_Sl (fun r9 => r9 = dk_H a b)) 0 0 (fun _ => False) := by
  refine Met.ofW (cc := cX1_h) (maxL := 6) (ret := (some .long)) (by decide) rfl ?_
  intro p e s m args below meth c s₁ B hml hv
  obtain ⟨rfl, -⟩ := hv
  have hx := B.exec
  have hb := B.bytes
  have hr := B.returns
  have hts := atoms_spec (ws := wsX1_h) B.pre
  have hown : s.vm.findClass RX1 = some m.cls := findClass_of_methodNamed B.named
  have hlocks := B.notSynchronized
  have hl := lv_entry ([.long a, .long b]) (n := 6) (Nat.le_of_ble_eq_true rfl)
  rw [lg_entry_eq]
  generalize (lg_sl ([.long a, .long b]) ++ List.replicate (6 - (lg_sl ([.long a, .long b])).length) Slot.unset).toArray = ls at hl ⊢
  have hl : lv_has ls 6 [(0, .long a), (2, .long b)] := hl
  refine lv_lload_n hx hb dX1_h_0 rfl (lv_at hl 0 rfl) ?_
  refine lv_ldc2 (v := 1442695040888963407) hx hb hown (hts (.constantLong RX1 17 1442695040888963407) (by decide +kernel)) dX1_h_1 ?_
  refine lv_lxor hx hb dX1_h_4 ?_
  refine lv_ldc2 (v := 6364136223846793005) hx hb hown (hts (.constantLong RX1 19 6364136223846793005) (by decide +kernel)) dX1_h_5 ?_
  refine lv_lmul hx hb dX1_h_8 ?_
  refine lv_lload_n hx hb dX1_h_9 rfl (lv_at hl 1 rfl) ?_
  refine lv_ladd hx hb dX1_h_10 ?_
  refine lv_topl (fun v_10 ev_10 => ?_)
  have ev_10 : v_10 = dk_h1 a b := ev_10.trans rfl
  subst ev_10
  refine lv_lstore (lv' := [(4, .long (dk_h1 a b)), (0, .long a), (2, .long b)]) hx hb dX1_h_11 hl (by decide) rfl (fun ls hl => ?_)
  refine lv_lload hx hb dX1_h_13 (lv_at hl 0 rfl) ?_
  refine lv_lload hx hb dX1_h_15 (lv_at hl 0 rfl) ?_
  refine lv_bipush (v := 32) hx hb dX1_h_17 (by decide) ?_
  refine lv_lushr hx hb dX1_h_19 rfl ?_
  refine lv_lxor hx hb dX1_h_20 ?_
  refine lv_topl (fun v_20 ev_20 => ?_)
  have ev_20 : v_20 = dk_h2 (dk_h1 a b) := ev_20.trans rfl
  subst ev_20
  refine lv_lstore (lv' := [(4, .long (dk_h2 (dk_h1 a b))), (0, .long a), (2, .long b)]) hx hb dX1_h_21 hl (by decide) rfl (fun ls hl => ?_)
  refine lv_lload hx hb dX1_h_23 (lv_at hl 0 rfl) ?_
  refine lv_ldc2 (v := 2862933555777941757) hx hb hown (hts (.constantLong RX1 21 2862933555777941757) (by decide +kernel)) dX1_h_25 ?_
  refine lv_lmul hx hb dX1_h_28 ?_
  refine lv_topl (fun v_28 ev_28 => ?_)
  have ev_28 : v_28 = dk_h3 (dk_h2 (dk_h1 a b)) := ev_28.trans rfl
  subst ev_28
  refine lv_lstore (lv' := [(4, .long (dk_h3 (dk_h2 (dk_h1 a b)))), (0, .long a), (2, .long b)]) hx hb dX1_h_29 hl (by decide) rfl (fun ls hl => ?_)
  refine lv_lload hx hb dX1_h_31 (lv_at hl 0 rfl) ?_
  refine lv_lload hx hb dX1_h_33 (lv_at hl 0 rfl) ?_
  refine lv_bipush (v := 29) hx hb dX1_h_35 (by decide) ?_
  refine lv_lushr hx hb dX1_h_37 rfl ?_
  refine lv_lxor hx hb dX1_h_38 ?_
  refine lv_topl (fun v_38 ev_38 => ?_)
  have ev_38 : v_38 = dk_H a b := ev_38.trans rfl
  subst ev_38
  exact W.lret (v := (dk_H a b)) hx hb hr (fun t ht hW => ⟨_, rfl, rfl, ht⟩) (fun q h => nomatch h) dX1_h_39

set_option maxHeartbeats 4000000 in
set_option maxRecDepth 100000 in
theorem dk_m_digestOf (l : Launch) (a : Int64) : Met l yX1_digestOf wsX1_digestOf ({ frames := 1, cells := 0, slots := 0, locals := 25 }) (va_Pc [.long a] (fun _ => True)) (vp_Sl (fun r9 => r9 = lN (dk_hN a 3 / 562949953421312))) 0 0 (fun _ => False) := by
  refine Met.ofW (cc := cX1_digestOf) (maxL := 2) (ret := (some .long)) (by decide) rfl ?_
  intro p e s m args below meth c s₁ B hml hv
  obtain ⟨rfl, -⟩ := hv
  have hx := B.exec
  have hb := B.bytes
  have hr := B.returns
  have hts := atoms_spec (ws := wsX1_digestOf) B.pre
  have hown : s.vm.findClass RX1 = some m.cls := findClass_of_methodNamed B.named
  have hlocks := B.notSynchronized
  have hl := lv_entry ([.long a]) (n := 2) (Nat.le_of_ble_eq_true rfl)
  rw [lg_entry_eq]
  generalize (lg_sl ([.long a]) ++ List.replicate (2 - (lg_sl ([.long a])).length) Slot.unset).toArray = ls at hl ⊢
  have hl : lv_has ls 2 [(0, .long a)] := hl
  refine lv_lload_n hx hb dX1_digestOf_0 rfl (lv_at hl 0 rfl) ?_
  refine lv_ldc2 (v := 3) hx hb hown (hts (.constantLong RX1 23 3) (by decide +kernel)) dX1_digestOf_1 ?_
  refine vp_callSl (W.runS (As := [.long a, .long 3]) (rest := []) ⟨hx, hb, hml, hown, hts⟩ (dk_m_h l a 3) (va_cwS 2 hts gX1_digestOf_X1_h rfl rfl rfl (by decide +kernel) ⟨Nat.le_of_ble_eq_true rfl, Nat.le_of_ble_eq_true rfl⟩) ⟨fun _ _ _ _ q9 => q9, fun U hU hW => ⟨rfl, trivial⟩⟩ rfl rfl hl.1 rfl (lv_room (Nat.le_of_ble_eq_true rfl)) dX1_digestOf_4 ⟨Nat.le_of_ble_eq_true rfl, Nat.le_of_ble_eq_true rfl⟩) (fun r_4 hr_4 => ?_)
  subst hr_4
  refine lv_bipush (v := 49) hx hb dX1_digestOf_7 (by decide) ?_
  refine lv_lushr hx hb dX1_digestOf_9 rfl ?_
  refine lv_topl (fun v_9 ev_9 => ?_)
  have ev_9 : v_9 = lN (dk_hN a 3 / 562949953421312) := ev_9.trans (dk_hus a 3 (k := 49) (by decide))
  subst ev_9
  exact W.lret (v := (lN (dk_hN a 3 / 562949953421312))) hx hb hr (fun t ht hW => ⟨_, rfl, rfl, ht⟩) (fun q h => nomatch h) dX1_digestOf_10

set_option maxHeartbeats 4000000 in
set_option maxRecDepth 100000 in
theorem dk_prime_loop {p : Program} {l : Launch} {e : Env} {R : Room} {s : State} {m : MethodId} {args : Array Value} {below : List Frame} {meth : Method} {c : Code} {H : Heap} {locs : List Loc} {cells slots : Nat} {Q : State → Prop} (hx : p.tables.exec = Jvm.exec) (hb : c.code = cX1_prime) (hown : s.vm.findClass RX1 = some m.cls) (hts : ∀ w ∈ wsX1_prime, w.before args s = true) (x : Nat) (hx2 : 3 ≤ x) (hx9 : x < 2147483648) (hod : x % 2 = 1) (k1 : dk_pr x → ∀ (ls : Array Slot), W p l e R s m args below meth c H locs cells slots Q (F0 m 58 ls [.int 1])) (k0 : ¬ dk_pr x → ∀ ls : Array Slot, W p l e R s m args below meth c H locs cells slots Q (F0 m 47 ls [.int 0])) :
    ∀ (n d : Nat) (ls : Array Slot), 46345 ≤ d + n → 3 ≤ d → d ≤ 46343 → d % 2 = 1 → (∀ d2 : Nat, 3 ≤ d2 → d2 % 2 = 1 → d2 < d → ¬ x % d2 = 0) → lv_has ls 3 [(0, .int (nI x)), (1, .long (lN d))] → W p l e R s m args below meth c H locs cells slots Q (F0 m 28 ls []) := by
  intro n
  induction n with
  | zero =>
    intro d ls h1 h2 h3
    exact absurd h1 (by omega)
  | succ n ih =>
    intro d ls h1 h2 h3 h4 h5 hl
    have hdd : d * d ≤ 46343 * 46343 := Nat.mul_le_mul h3 h3
    refine lv_lload_n hx hb dX1_prime_28 rfl (lv_at hl 1 rfl) ?_
    refine lv_lload_n hx hb dX1_prime_29 rfl (lv_at hl 1 rfl) ?_
    refine lv_lmul hx hb dX1_prime_30 ?_
    refine lv_topl (fun v_30 ev_30 => ?_)
    have ev_30 : v_30 = lN (d * d) := ev_30.trans (lN_mul d d)
    subst ev_30
    refine lv_iload_n hx hb dX1_prime_31 rfl (lv_at hl 0 rfl) ?_
    refine lv_i2l hx hb dX1_prime_32 rfl ?_
    refine lv_topl (fun v_32 ev_32 => ?_)
    have ev_32 : v_32 = lN x := ev_32.trans (nI_l hx9)
    subst ev_32
    refine W.lcmp hx hb dX1_prime_33 ?_
    refine lv_if_gt (tgt := 57) hx hb dX1_prime_34 (by decide) (fun c_34 => ?_) (fun c_34 => ?_)
    · have hle : x < d * d := (pk_lLT (by omega) (by omega)).mp ((lg_cmp_gt _ _).mp c_34)
      have hp : dk_pr x := dk_pr_odd hx2 hod (fun d2 q1 q2 q3 => h5 d2 q1 q2 (by
        rcases Nat.lt_or_ge d2 d with q | q
        · exact q
        · have := Nat.mul_le_mul q q
          omega))
      refine lv_iconst (v := 1) hx hb dX1_prime_57 (by decide) ?_
      exact k1 hp ls
    · have hle : d * d ≤ x := by
        rcases Nat.lt_or_ge x (d * d) with q | q
        · exact absurd ((lg_cmp_gt _ _).mpr ((pk_lLT (a := x) (b := d * d) (by omega) (by omega)).mpr q)) c_34
        · exact q
      have hd9 : d ≤ 46340 := by
        rcases Nat.lt_or_ge 46340 d with q | q
        · have := Nat.mul_le_mul (show 46341 ≤ d by omega) (show 46341 ≤ d by omega)
          omega
        · exact q
      refine lv_iload_n hx hb dX1_prime_37 rfl (lv_at hl 0 rfl) ?_
      refine lv_i2l hx hb dX1_prime_38 rfl ?_
      refine lv_topl (fun v_38 ev_38 => ?_)
      have ev_38 : v_38 = lN x := ev_38.trans (nI_l hx9)
      subst ev_38
      refine lv_lload_n hx hb dX1_prime_39 rfl (lv_at hl 1 rfl) ?_
      refine lv_lrem hx hb dX1_prime_40 (dk_lne (by omega) (by omega)) ?_
      refine lv_topl (fun v_40 ev_40 => ?_)
      have ev_40 : v_40 = lN (x % d) := ev_40.trans (pk_lRem (by omega) (by omega) (by omega))
      subst ev_40
      refine lv_lconst (v := 0) hx hb dX1_prime_41 (by decide) ?_
      refine W.lcmp hx hb dX1_prime_42 ?_
      refine lv_if_ne (tgt := 48) hx hb dX1_prime_43 (by decide) (fun c_43 => ?_) (fun c_43 => ?_)
      · have hnm : ¬ x % d = 0 := fun q => c_43 ((lg_cmp_eq _ _).mpr (by rw [q]; rfl))
        refine lv_lload_n hx hb dX1_prime_48 rfl (lv_at hl 1 rfl) ?_
        refine lv_ldc2 (v := 2) hx hb hown (hts (.constantLong RX1 25 2) (by decide +kernel)) dX1_prime_49 ?_
        refine lv_ladd hx hb dX1_prime_52 ?_
        refine lv_topl (fun v_52 ev_52 => ?_)
        have ev_52 : v_52 = lN (d + 2) := ev_52.trans (lN_add d 2)
        subst ev_52
        refine lv_lstore_n (lv' := [(1, .long (lN (d + 2))), (0, .int (nI x))]) hx hb dX1_prime_53 rfl hl (by decide) rfl (fun ls hl => ?_)
        refine lv_goto (tgt := 28) hx hb dX1_prime_54 (by decide) ?_
        exact ih (d + 2) ls (by omega) (by omega) (by omega) (by omega) (fun d2 q1 q2 q3 => if q4 : d2 < d then h5 d2 q1 q2 q4 else by rw [show d2 = d by omega]; exact hnm) (lv_sub hl [1, 0] rfl)
      · have hlt : x % d < d := Nat.mod_lt _ (by omega)
        have hnm : x % d = 0 := (pk_lEQ (b := 0) (by omega) (by omega)).mp ((lg_cmp_eq _ _).mp c_43)
        refine lv_iconst (v := 0) hx hb dX1_prime_46 (by decide) ?_
        exact k0 (dk_pr_not (by omega) hle hnm) ls

set_option maxHeartbeats 4000000 in
set_option maxRecDepth 100000 in
theorem dk_m_prime (l : Launch) (x : Nat) (hx9 : x < 2147483648) : Met l yX1_prime wsX1_prime ({ frames := 0, cells := 0, slots := 0, locals := 0 }) (va_Pc [.int (nI x)] (fun _ => True)) (vp_Si (fun r9 => (r9 = 1 ∧ dk_pr x) ∨ (r9 = 0 ∧ ¬ dk_pr x))) 0 0 (fun _ => False) := by
  refine Met.ofW (cc := cX1_prime) (maxL := 3) (ret := (some .boolean)) (by decide) rfl ?_
  intro p e s m args below meth c s₁ B hml hv
  obtain ⟨rfl, -⟩ := hv
  have hx := B.exec
  have hb := B.bytes
  have hr := B.returns
  have hts := atoms_spec (ws := wsX1_prime) B.pre
  have hown : s.vm.findClass RX1 = some m.cls := findClass_of_methodNamed B.named
  have hlocks := B.notSynchronized
  have hl := lv_entry ([.int (nI x)]) (n := 3) (Nat.le_of_ble_eq_true rfl)
  rw [lg_entry_eq]
  generalize (lg_sl ([.int (nI x)]) ++ List.replicate (3 - (lg_sl ([.int (nI x)])).length) Slot.unset).toArray = ls at hl ⊢
  have hl : lv_has ls 3 [(0, .int (nI x))] := hl
  refine lv_iload_n hx hb dX1_prime_0 rfl (lv_at hl 0 rfl) ?_
  refine lv_iconst (v := 4) hx hb dX1_prime_1 (by decide) ?_
  refine lv_icmp_ge (tgt := 16) hx hb dX1_prime_2 (by decide) (fun c_2 => ?_) (fun c_2 => ?_)
  · have hge : 4 ≤ x := (nI_leI (by omega) (by omega)).mp c_2
    refine lv_iload_n hx hb dX1_prime_16 rfl (lv_at hl 0 rfl) ?_
    refine lv_iconst (v := 2) hx hb dX1_prime_17 (by decide) ?_
    refine lv_irem hx hb dX1_prime_18 (by decide) ?_
    refine lv_topi (fun v_18 ev_18 => ?_)
    have ev_18 : v_18 = nI (x % 2) := ev_18.trans (pk_rem (d := 2) (by omega) (by omega) (by omega))
    subst ev_18
    refine lv_if_ne (tgt := 24) hx hb dX1_prime_19 (by decide) (fun c_19 => ?_) (fun c_19 => ?_)
    · have hod : x % 2 = 1 := by
        rcases (show x % 2 = 0 ∨ x % 2 = 1 by omega) with q | q
        · exact absurd (by rw [q]; rfl) c_19
        · exact q
      refine lv_ldc2 (v := 3) hx hb hown (hts (.constantLong RX1 23 3) (by decide +kernel)) dX1_prime_24 ?_
      refine lv_lstore_n (lv' := [(1, .long 3), (0, .int (nI x))]) hx hb dX1_prime_27 rfl hl (by decide) rfl (fun ls hl => ?_)
      refine dk_prime_loop hx hb hown hts x (by omega) hx9 hod (fun hp ls => ?_) (fun hp ls => ?_) 46342 3 ls (by omega) (by omega) (by omega) (by omega) (fun d2 q1 q2 q3 => absurd q3 (by omega)) (lv_sub hl [1, 0] rfl)
      · exact W.zret (v := 1) (ty := .boolean) hx hb hr rfl (fun t ht hW => ⟨_, rfl, Or.inl ⟨rfl, hp⟩, ht⟩) (fun q h => nomatch h) dX1_prime_58
      · exact W.zret (v := 0) (ty := .boolean) hx hb hr rfl (fun t ht hW => ⟨_, rfl, Or.inr ⟨rfl, hp⟩, ht⟩) (fun q h => nomatch h) dX1_prime_47
    · have hev : x % 2 = 0 := (nI_eq (by omega) (by omega)).mp c_19
      have hp : ¬ dk_pr x := fun q => q.2 2 (by omega) (by omega) hev
      refine lv_iconst (v := 0) hx hb dX1_prime_22 (by decide) ?_
      exact W.zret (v := 0) (ty := .boolean) hx hb hr rfl (fun t ht hW => ⟨_, rfl, Or.inr ⟨rfl, hp⟩, ht⟩) (fun q h => nomatch h) dX1_prime_23
  · have hlt : x < 4 := by
      rcases Nat.lt_or_ge x 4 with q | q
      · exact q
      · exact absurd ((nI_leI (a := 4) (b := x) (by omega) (by omega)).mpr q) c_2
    refine lv_iload_n hx hb dX1_prime_5 rfl (lv_at hl 0 rfl) ?_
    refine lv_iconst (v := 1) hx hb dX1_prime_6 (by decide) ?_
    refine lv_icmp_le (tgt := 14) hx hb dX1_prime_7 (by decide) (fun c_7 => ?_) (fun c_7 => ?_)
    · have h1 : x ≤ 1 := (nI_leI (by omega) (by omega)).mp c_7
      have hp : ¬ dk_pr x := fun q => by
        have q1 := q.1
        omega
      refine lv_iconst (v := 0) hx hb dX1_prime_14 (by decide) ?_
      exact W.zret (v := 0) (ty := .boolean) hx hb hr rfl (fun t ht hW => ⟨_, rfl, Or.inr ⟨rfl, hp⟩, ht⟩) (fun q h => nomatch h) dX1_prime_15
    · have h1 : ¬ x ≤ 1 := fun q => c_7 ((nI_leI (a := x) (b := 1) (by omega) (by omega)).mpr q)
      have hp : dk_pr x := ⟨by omega, fun d q1 q2 => by
        rcases (show x = 3 ∧ d = 2 by omega) with ⟨rfl, rfl⟩
        decide⟩
      refine lv_iconst (v := 1) hx hb dX1_prime_10 (by decide) ?_
      refine lv_goto (tgt := 15) hx hb dX1_prime_11 (by decide) ?_
      exact W.zret (v := 1) (ty := .boolean) hx hb hr rfl (fun t ht hW => ⟨_, rfl, Or.inl ⟨rfl, hp⟩, ht⟩) (fun q h => nomatch h) dX1_prime_15

set_option maxHeartbeats 4000000 in
set_option maxRecDepth 100000 in
theorem dk_mpower_loop {p : Program} {l : Launch} {e : Env} {R : Room} {s : State} {m : MethodId} {args : Array Value} {below : List Frame} {meth : Method} {c : Code} {H : Heap} {locs : List Loc} {cells slots : Nat} {Q : State → Prop} (hx : p.tables.exec = Jvm.exec) (hb : c.code = cX1_power) (b9 e9 m9 : Nat) (hb9 : b9 < 2147483648) (he9 : e9 < 2147483648) (hm0 : 2 ≤ m9) (hm9 : m9 < 2147483648) (kk : ∀ ls : Array Slot, lv_has ls 11 [(8, .long (lN (b9 ^ e9 % m9)))] → W p l e R s m args below meth c H locs cells slots Q (F0 m 63 ls [])) :
    ∀ (n r : Nat) (ls : Array Slot), n ≤ 32 → r = b9 ^ (e9 / 2 ^ n) % m9 → lv_has ls 11 [(2, .long (lN e9)), (4, .long (lN m9)), (6, .long (lN b9)), (8, .long (lN r)), (10, .int (nI n + (-1)))] → W p l e R s m args below meth c H locs cells slots Q (F0 m 16 ls []) := by
  have hz : ¬ lN m9 = 0 := dk_lne (by omega) (by omega)
  intro n
  induction n with
  | zero =>
    intro r ls hn er hl
    refine lv_iload hx hb dX1_power_16 (lv_at hl 4 rfl) ?_
    refine lv_if_lt (tgt := 63) hx hb dX1_power_18 (by decide) (fun c_18 => ?_) (fun c_18 => ?_)
    · have er : r = b9 ^ e9 % m9 := by rw [er, Nat.pow_zero, Nat.div_one]
      subst er
      exact kk ls (lv_sub hl [3] rfl)
    · exact absurd (by decide) c_18
  | succ j ih =>
    intro r ls hn er hl
    have hrm : r < m9 := by rw [er]; exact Nat.mod_lt _ (by omega)
    rw [pk_m1] at hl
    have hrr : r * r < 9223372036854775808 := Nat.lt_of_le_of_lt (Nat.mul_le_mul (Nat.le_of_lt (Nat.lt_trans hrm hm9)) (Nat.le_of_lt (Nat.lt_trans hrm hm9))) (by decide)
    have hrm2 : r * r % m9 < m9 := Nat.mod_lt _ (by omega)
    have hrb : r * r % m9 * b9 < 9223372036854775808 := Nat.lt_of_le_of_lt (Nat.mul_le_mul (Nat.le_of_lt (Nat.lt_trans hrm2 hm9)) (Nat.le_of_lt hb9)) (by decide)
    have he2 : e9 / 2 ^ j ≤ e9 := Nat.div_le_self _ _
    refine lv_iload hx hb dX1_power_16 (lv_at hl 4 rfl) ?_
    refine lv_if_lt (tgt := 63) hx hb dX1_power_18 (by decide) (fun c_18 => ?_) (fun c_18 => ?_)
    · exact absurd c_18 (nI_pos (by omega))
    · refine lv_lload hx hb dX1_power_21 (lv_at hl 3 rfl) ?_
      refine lv_lload hx hb dX1_power_23 (lv_at hl 3 rfl) ?_
      refine lv_lmul hx hb dX1_power_25 ?_
      refine lv_topl (fun v_25 ev_25 => ?_)
      have ev_25 : v_25 = lN (r * r) := ev_25.trans (lN_mul r r)
      subst ev_25
      refine lv_lload hx hb dX1_power_26 (lv_at hl 1 rfl) ?_
      refine lv_lrem hx hb dX1_power_28 hz ?_
      refine lv_topl (fun v_28 ev_28 => ?_)
      have ev_28 : v_28 = lN (r * r % m9) := ev_28.trans (pk_lRem hrr (by omega) (by omega))
      subst ev_28
      refine lv_lstore (lv' := [(8, .long (lN (r * r % m9))), (2, .long (lN e9)), (4, .long (lN m9)), (6, .long (lN b9)), (10, .int (nI j))]) hx hb dX1_power_29 hl (by decide) rfl (fun ls hl => ?_)
      refine lv_lload_n hx hb dX1_power_31 rfl (lv_at hl 1 rfl) ?_
      refine lv_iload hx hb dX1_power_32 (lv_at hl 4 rfl) ?_
      refine lv_lshr hx hb dX1_power_34 rfl ?_
      refine lv_topl (fun v_34 ev_34 => ?_)
      have ev_34 : v_34 = lN (e9 / 2 ^ j) := ev_34.trans (pf_shr (dk_sm j (by omega)) (by omega))
      subst ev_34
      refine lv_lconst (v := 1) hx hb dX1_power_35 (by decide) ?_
      refine lv_land hx hb dX1_power_36 ?_
      refine lv_topl (fun v_36 ev_36 => ?_)
      have ev_36 : v_36 = lN (e9 / 2 ^ j % 2) := ev_36.trans (wb_a1 (by omega))
      subst ev_36
      refine lv_lconst (v := 1) hx hb dX1_power_37 (by decide) ?_
      refine W.lcmp hx hb dX1_power_38 ?_
      refine lv_if_ne (tgt := 53) hx hb dX1_power_39 (by decide) (fun c_39 => ?_) (fun c_39 => ?_)
      · have hb1 : e9 / 2 ^ j % 2 = 0 := by
          rcases (show e9 / 2 ^ j % 2 = 0 ∨ e9 / 2 ^ j % 2 = 1 by omega) with q | q
          · exact q
          · exact absurd ((lg_cmp_eq _ _).mpr (by rw [q]; rfl)) c_39
        refine lv_lload hx hb dX1_power_53 (lv_at hl 0 rfl) ?_
        refine lv_lstore (lv' := [(8, .long (lN (r * r % m9))), (2, .long (lN e9)), (4, .long (lN m9)), (6, .long (lN b9)), (10, .int (nI j))]) hx hb dX1_power_55 hl (by decide) rfl (fun ls hl => ?_)
        refine lv_iinc (v := ((nI j) + (-1))) (lv' := [(10, .int ((nI j) + (-1))), (8, .long (lN (r * r % m9))), (2, .long (lN e9)), (4, .long (lN m9)), (6, .long (lN b9))]) hx hb dX1_power_57 hl (k := 4) rfl rfl (by decide) rfl (fun ls hl => ?_)
        refine lv_goto (tgt := 16) hx hb dX1_power_60 (by decide) ?_
        exact ih (r * r % m9) ls (by omega) (by rw [dk_pw_sq er, dk_half0 hb1]) (lv_sub hl [2, 3, 4, 1, 0] rfl)
      · have hb1 : e9 / 2 ^ j % 2 = 1 := (pk_lEQ (b := 1) (by omega) (by omega)).mp ((lg_cmp_eq _ _).mp c_39)
        refine lv_lload hx hb dX1_power_42 (lv_at hl 0 rfl) ?_
        refine lv_lload hx hb dX1_power_44 (lv_at hl 3 rfl) ?_
        refine lv_lmul hx hb dX1_power_46 ?_
        refine lv_topl (fun v_46 ev_46 => ?_)
        have ev_46 : v_46 = lN (r * r % m9 * b9) := ev_46.trans (lN_mul _ _)
        subst ev_46
        refine lv_lload hx hb dX1_power_47 (lv_at hl 2 rfl) ?_
        refine lv_lrem hx hb dX1_power_49 hz ?_
        refine lv_topl (fun v_49 ev_49 => ?_)
        have ev_49 : v_49 = lN (r * r % m9 * b9 % m9) := ev_49.trans (pk_lRem hrb (by omega) (by omega))
        subst ev_49
        refine lv_goto (tgt := 55) hx hb dX1_power_50 (by decide) ?_
        refine lv_lstore (lv' := [(8, .long (lN (r * r % m9 * b9 % m9))), (2, .long (lN e9)), (4, .long (lN m9)), (6, .long (lN b9)), (10, .int (nI j))]) hx hb dX1_power_55 hl (by decide) rfl (fun ls hl => ?_)
        refine lv_iinc (v := ((nI j) + (-1))) (lv' := [(10, .int ((nI j) + (-1))), (8, .long (lN (r * r % m9 * b9 % m9))), (2, .long (lN e9)), (4, .long (lN m9)), (6, .long (lN b9))]) hx hb dX1_power_57 hl (k := 4) rfl rfl (by decide) rfl (fun ls hl => ?_)
        refine lv_goto (tgt := 16) hx hb dX1_power_60 (by decide) ?_
        exact ih (r * r % m9 * b9 % m9) ls (by omega) (by rw [dk_pw_mul (dk_pw_sq er), dk_half1 hb1]) (lv_sub hl [2, 3, 4, 1, 0] rfl)

set_option maxHeartbeats 4000000 in
set_option maxRecDepth 100000 in
theorem dk_m_power (l : Launch) (b9 e9 m9 : Nat) (hb9 : b9 < 2147483648) (he9 : e9 < 2147483648) (hm0 : 2 ≤ m9) (hm9 : m9 < 2147483648) : Met l yX1_power wsX1_power ({ frames := 0, cells := 0, slots := 0, locals := 0 }) (va_Pc [.long (lN b9), .long (lN e9), .long (lN m9)] (fun _ => True)) (vp_Sl (fun r9 => r9 = lN (b9 ^ e9 % m9))) 0 0 (fun _ => False) := by
  refine Met.ofW (cc := cX1_power) (maxL := 11) (ret := (some .long)) (by decide) rfl ?_
  intro p e s m args below meth c s₁ B hml hv
  obtain ⟨rfl, -⟩ := hv
  have hx := B.exec
  have hb := B.bytes
  have hr := B.returns
  have hts := atoms_spec (ws := wsX1_power) B.pre
  have hown : s.vm.findClass RX1 = some m.cls := findClass_of_methodNamed B.named
  have hlocks := B.notSynchronized
  have hl := lv_entry ([.long (lN b9), .long (lN e9), .long (lN m9)]) (n := 11) (Nat.le_of_ble_eq_true rfl)
  rw [lg_entry_eq]
  generalize (lg_sl ([.long (lN b9), .long (lN e9), .long (lN m9)]) ++ List.replicate (11 - (lg_sl ([.long (lN b9), .long (lN e9), .long (lN m9)])).length) Slot.unset).toArray = ls at hl ⊢
  have hl : lv_has ls 11 [(0, .long (lN b9)), (2, .long (lN e9)), (4, .long (lN m9))] := hl
  refine lv_lload_n hx hb dX1_power_0 rfl (lv_at hl 0 rfl) ?_
  refine lv_lload hx hb dX1_power_1 (lv_at hl 2 rfl) ?_
  refine lv_lrem hx hb dX1_power_3 (dk_lne (by omega) (by omega)) ?_
  refine lv_topl (fun v_3 ev_3 => ?_)
  have ev_3 : v_3 = lN (b9 % m9) := ev_3.trans (pk_lRem (by omega) (by omega) (by omega))
  subst ev_3
  refine lv_lstore (lv' := [(6, .long (lN (b9 % m9))), (0, .long (lN b9)), (2, .long (lN e9)), (4, .long (lN m9))]) hx hb dX1_power_4 hl (by decide) rfl (fun ls hl => ?_)
  refine lv_lconst (v := 1) hx hb dX1_power_6 (by decide) ?_
  refine lv_lload hx hb dX1_power_7 (lv_at hl 3 rfl) ?_
  refine lv_lrem hx hb dX1_power_9 (dk_lne (by omega) (by omega)) ?_
  refine lv_topl (fun v_9 ev_9 => ?_)
  have ev_9 : v_9 = lN 1 := ev_9.trans ((pk_lRem (a := 1) (by omega) (by omega) (by omega)).trans (by rw [Nat.mod_eq_of_lt (by omega)]))
  subst ev_9
  refine lv_lstore (lv' := [(8, .long (lN 1)), (6, .long (lN (b9 % m9))), (0, .long (lN b9)), (2, .long (lN e9)), (4, .long (lN m9))]) hx hb dX1_power_10 hl (by decide) rfl (fun ls hl => ?_)
  refine lv_bipush (v := 31) hx hb dX1_power_12 (by decide) ?_
  refine lv_istore (lv' := [(10, .int 31), (8, .long (lN 1)), (6, .long (lN (b9 % m9))), (0, .long (lN b9)), (2, .long (lN e9)), (4, .long (lN m9))]) hx hb dX1_power_14 hl (by decide) rfl (fun ls hl => ?_)
  refine dk_mpower_loop hx hb (b9 % m9) e9 m9 (Nat.lt_trans (Nat.mod_lt _ (by omega)) hm9) he9 hm0 hm9 (fun ls hl => ?_) 32 1 ls (Nat.le_refl _) (by rw [Nat.div_eq_of_lt (by omega), Nat.pow_zero, Nat.mod_eq_of_lt (by omega)]) (lv_sub hl [4, 5, 2, 1, 0] rfl)
  refine lv_lload hx hb dX1_power_63 (lv_at hl 0 rfl) ?_
  exact W.lret (v := (lN ((b9 % m9) ^ e9 % m9))) hx hb hr (fun t ht hW => ⟨_, rfl, (congrArg lN (Nat.pow_mod b9 e9 m9).symm), ht⟩) (fun q h => nomatch h) dX1_power_65
end
section
/-! what exceptions need of the tables and of the heap -/
def dk_exs : List String := ["java/lang/IllegalStateException", "java/lang/IllegalArgumentException", "java/lang/IndexOutOfBoundsException", "java/util/NoSuchElementException", "java/lang/ArithmeticException"]
def dk_ups : List String := ["java/lang/RuntimeException", "java/lang/Exception", "java/lang/Throwable"]
def dk_strs : List (Nat × String) := [(43, "no candidate"), (50, "index is not 0 .. 255"), (61, "no domain"), (85, "slot is not 0 .. 7"), (91, "secret is not 1 .. q - 1"), (109, "k is not 1 .. q - 1"), (120, "r or s is 0"), (123, "peer is not 2 .. p - 2"), (125, "secret would be 1"), (129, "no key")]
def dk_V (U : State) : Prop :=
  (∀ E ∈ dk_exs, va_Nw (.castable E E) U) ∧ (∀ Y ∈ dk_ups, va_Nw (.declares (Bundle.initS Y)) U) ∧ (∀ q ∈ dk_strs, ∃ sa : Nat, vk_R RX0 q.1 q.2 sa U) ∧ ∀ E ∈ dk_exs, ∀ T ∈ dk_exs, E ≠ T → va_Nc E T U
theorem dk_V.warm {s U : State} (hW : s.WarmedH U.vm) (h : dk_V s) : dk_V U :=
  ⟨fun E q => va_Nw.warmC hW (h.1 E q), fun Y q => va_Nw.warmD hW (h.2.1 Y q), fun q hq => (h.2.2.1 q hq).elim fun sa h9 => ⟨sa, vk_R.warm hW h9⟩, fun E q T q2 n => va_Nc.moved hW.alike (h.2.2.2 E q T q2 n)⟩
def dk_E (A : Nat → Prop) (U : State) (H : Heap) : Prop := vx_Zq Bundle.tN "UNASSIGNED_STACK" Bundle.steD A U H ∧ vx_Zq Bundle.tN "SUPPRESSED_SENTINEL" Bundle.listD A U H ∧ dk_V U
theorem dk_E.go {A A1 : Nat → Prop} {s U : State} {H : Heap} {locs : List Loc} (h : dk_E A s s.heap) (hS : va_S A s.heap H locs) (hF : ∀ q, A1 q → A q) (hU : U.heap = H) (hW : s.WarmedH U.vm) : dk_E A1 U U.heap := by
  rw [hU]
  exact ⟨vx_Zq.moved hW.alike ((h.1.kept hS.2.1).narrow hF), vx_Zq.moved hW.alike ((h.2.1.kept hS.2.1).narrow hF), h.2.2.warm hW⟩
theorem dk_E.blind {A : Nat → Prop} {U : State} {g : JFrame} {mk : MethodId} {a : Array Value} (h : dk_E A U U.heap) : dk_E A (U.calling g mk a) (U.calling g mk a).heap :=
  ⟨vx_Zq.moved (u := U) (U := U.calling g mk a) (Vm.Alike.refl U.vm) h.1, vx_Zq.moved (u := U) (U := U.calling g mk a) (Vm.Alike.refl U.vm) h.2.1, h.2.2.warm (s := U) (U := U.calling g mk a) (State.WarmedH.refl U)⟩
theorem dk_F {A : Nat → Prop} {s t : State} {H : Heap} {locs : List Loc} (hS : va_S A s.heap H locs) (hz : H.size ≤ t.heap.size) (hk : ∀ q : Nat, q < H.size → t.heap[q]? = H[q]?) : va_F A s t :=
  ⟨Nat.le_trans hS.1 hz, fun q h1 h2 => (hk q (Nat.lt_of_lt_of_le h1 hS.1)).trans (hS.2.1 q h1 h2)⟩
/-! the class's state: p, q, seed, counter of the candidate; p, q, g of the domain; the secrets; the public numbers -/
abbrev dk_S : Type := Int32 × Int32 × Int64 × Int32 × Int32 × Int32 × Int32 × (Nat → Int32) × (Nat → Int32)
abbrev dk_B (dC : Nat → ClassId) (dI : Nat → Nat → Nat) (A : Nat → Prop) (h0 h1 h2 : Nat) (a1 a2 : ClassId) (u : dk_S) (t : State) : Prop := match u with
  | (cp, cq, cs, cn, dp, dq, dg, se, pu) => va_P (dC, dI) vwCl [(h0, .inr (0, [.int cp, .int cq, .long cs, .int cn, .int dp, .int dq, .int dg, .ref h1, .ref h2])), (h1, .inl (a1, 8, .inl se)), (h2, .inl (a2, 8, .inl pu))] t.heap ∧ va_K (dC, dI) vwCl [(a1, .int), (a2, .int)] t ∧ va_D A [(h0, .inr (0, [.int cp, .int cq, .long cs, .int cn, .int dp, .int dq, .int dg, .ref h1, .ref h2])), (h1, .inl (a1, 8, .inl se)), (h2, .inl (a2, 8, .inl pu))]
/-! the reference's: madeP, madeQ, outcome, hasCandidate, seed, candidateP, candidateQ, candidateCounter, p, q, g, thrown; the secrets -/
abbrev dk_T : Type := Int32 × Int32 × Int32 × Int32 × Int64 × Int32 × Int32 × Int32 × Int32 × Int32 × Int32 × Int32 × (Nat → Int32)
abbrev dk_C (dC : Nat → ClassId) (dI : Nat → Nat → Nat) (A : Nat → Prop) (k0 k1 : Nat) (b1 : ClassId) (u : dk_T) (t : State) : Prop := match u with
  | (mp, mq, mo, hc, ms9, kp, kq, kn, pp, qq, gg, th, sk) => va_P (dC, dI) vwCl [(k0, .inr (1, [.int mp, .int mq, .int mo, .int hc, .long ms9, .int kp, .int kq, .int kn, .int pp, .int qq, .int gg, .ref k1, .int th])), (k1, .inl (b1, 8, .inl sk))] t.heap ∧ va_K (dC, dI) vwCl [(b1, .int)] t ∧ va_D A [(k0, .inr (1, [.int mp, .int mq, .int mo, .int hc, .long ms9, .int kp, .int kq, .int kn, .int pp, .int qq, .int gg, .ref k1, .int th])), (k1, .inl (b1, 8, .inl sk))]
end
section
/-! what each call answers, as functions of the state's numbers; the first of a pair: 0, or which exception the document names (in its order) -/
def dk_n (x : Int32) : Nat := x.toNatClampNeg
theorem dk_n_nI {n : Nat} (h : n < 2147483648) : dk_n (nI n) = n := nI_clamp (by omega)
def dk_pw (b x m : Int32) : Int32 := nI (dk_n b ^ dk_n x % dk_n m)
theorem dk_pw_nI {b x m : Nat} (hb : b < 2147483648) (hx : x < 2147483648) (hm : m < 2147483648) : dk_pw (nI b) (nI x) (nI m) = nI (b ^ x % m) := by
  unfold dk_pw
  rw [dk_n_nI hb, dk_n_nI hx, dk_n_nI hm]
abbrev dk_sl (x : Int32) : Prop := 0 ≤ x ∧ x < 8
theorem dk_sl_of {x : Int32} : dk_sl x ↔ ∃ j : Nat, j < 8 ∧ x = nI j := by
  constructor
  · intro h
    rcases pk_ix x (n := 8) (by decide) with q | q | q
    · exact absurd (Int32.lt_of_lt_of_le q h.1) (Int32.lt_irrefl)
    · exact absurd (Int32.lt_of_lt_of_le h.2 q) (Int32.lt_irrefl)
    · exact q
  · rintro ⟨j, h, rfl⟩
    exact ⟨nI_pos' (by omega), nI_lt h (by decide)⟩
abbrev dk_hk (se : Nat → Int32) (x : Int32) : Prop := dk_sl x ∧ ¬ se (dk_n x) = 0
theorem dk_hk_nI {se : Nat → Int32} {j : Nat} (hj : j < 8) : dk_hk se (nI j) ↔ ¬ se j = 0 := by
  unfold dk_hk
  rw [dk_n_nI (by omega)]
  exact ⟨fun h => h.2, fun h => ⟨dk_sl_of.mpr ⟨j, hj, rfl⟩, h⟩⟩
abbrev dk_ex (x q : Int32) : Prop := 1 ≤ x ∧ x < q
abbrev dk_pe (x p : Int32) : Prop := 2 ≤ x ∧ x ≤ p - 2
def dk_fcand (cp cq : Int32) (cs : Int64) (cn x : Int32) : Int64 := if x = 0 then cp.toInt64 else if x = 1 then cq.toInt64 else if x = 2 then cs else if x = 3 then cn.toInt64 else 0
def dk_fdom (dp dq dg x : Int32) : Int32 := if x = 0 then dp else if x = 1 then dq else if x = 2 then dg else 0
def dk_fkey (dp dq dg x y : Int32) : Int32 × Int32 := if dp = 0 then (1, 0) else if ¬ dk_sl x then (2, 0) else if ¬ dk_ex y dq then (3, 0) else (0, dk_pw dg y dp)
def dk_fpub (dp dg : Int32) (se : Nat → Int32) (x : Int32) : Int32 × Int32 := if ¬ dk_hk se x then (1, 0) else (0, dk_pw dg (se (dk_n x)) dp)
def dk_ffor (se : Nat → Int32) (x : Int32) : Int32 := if ¬ dk_hk se x then 1 else 0
def dk_ffit (dp dq y : Int32) : Int32 × Int32 := if dp = 0 then (1, 0) else (0, if dk_pe y dp ∧ dk_pw y dq dp = 1 then 1 else 0)
def dk_z (a : Int64) : Nat := dk_hN a 3 / 562949953421312
theorem dk_z_lt (a : Int64) : dk_z a < 32768 := by
  have h := dk_hN_lt a 3
  unfold dk_z
  omega
def dk_sr (dp dq dg k : Int32) : Nat := dk_n dg ^ dk_n k % dk_n dp % dk_n dq
def dk_ss (dp dq dg x k : Int32) (a : Int64) : Nat := (dk_z a + dk_n x * dk_sr dp dq dg k) % dk_n dq * (dk_n k ^ (dk_n dq - 2) % dk_n dq) % dk_n dq
def dk_fsig (dp dq dg : Int32) (se : Nat → Int32) (x : Int32) (a : Int64) (k : Int32) : Int32 × Int64 :=
  if ¬ dk_hk se x then (1, 0) else if ¬ dk_ex k dq then (2, 0) else if dk_sr dp dq dg k = 0 ∨ dk_ss dp dq dg (se (dk_n x)) k a = 0 then (3, 0) else (0, lN (dk_sr dp dq dg k * 4294967296 + dk_ss dp dq dg (se (dk_n x)) k a))
def dk_vw (dq s : Int32) : Nat := dk_n s ^ (dk_n dq - 2) % dk_n dq
def dk_vv (dp dq dg y : Int32) (a : Int64) (r s : Int32) : Nat := (dk_n dg ^ (dk_z a * dk_vw dq s % dk_n dq) % dk_n dp) * (dk_n y ^ (dk_n r * dk_vw dq s % dk_n dq) % dk_n dp) % dk_n dp % dk_n dq
def dk_fver (dp dq dg y : Int32) (a : Int64) (r s : Int32) : Int32 × Int32 := if dp = 0 then (1, 0) else (0, if (1 ≤ y ∧ y < dp) ∧ dk_ex r dq ∧ dk_ex s dq ∧ dk_n r = dk_vv dp dq dg y a r s then 1 else 0)
def dk_fagr (dp : Int32) (se : Nat → Int32) (x y : Int32) : Int32 × Int32 := if ¬ dk_hk se x then (1, 0) else if ¬ dk_pe y dp then (2, 0) else if dk_pw y (se (dk_n x)) dp = 1 then (3, 0) else (0, dk_pw y (se (dk_n x)) dp)
def dk_val (x y : Int32) (sd : Int64) (n : Int32) : Prop := dk_pr (dk_q sd) ∧ ∃ c : Nat, c < 64 ∧ dk_ok sd c ∧ (∀ j, j < c → ¬ dk_ok sd j) ∧ n = nI c ∧ y = nI (dk_q sd) ∧ x = nI (dk_try sd c)
/-! what always holds of the state -/
def dk_IC (cp cq : Int32) (cs : Int64) (cn : Int32) : Prop := (cp = 0 ∧ cq = 0 ∧ cs = 0 ∧ cn = 0) ∨ ∃ c : Nat, c < 64 ∧ dk_ok cs c ∧ dk_pr (dk_q cs) ∧ cp = nI (dk_try cs c) ∧ cq = nI (dk_q cs) ∧ cn = nI c
def dk_ID (dp dq dg : Int32) : Prop := (dp = 0 ∧ dq = 0 ∧ dg = 0) ∨ ∃ P Q G : Nat, P < 2147483648 ∧ Q < 2147483648 ∧ dk_dom P Q G ∧ dp = nI P ∧ dq = nI Q ∧ dg = nI G
def dk_IK (dp dq dg : Int32) (se pu : Nat → Int32) : Prop := ∀ j, j < 8 → se j = 0 ∨ (¬ dp = 0 ∧ dk_ex (se j) dq ∧ pu j = dk_pw dg (se j) dp)
theorem dk_dom_sz {P Q G : Nat} (hP : P < 2147483648) (h : dk_dom P Q G) : 3 ≤ P ∧ 3 ≤ Q ∧ Q < 1073741824 ∧ Q < P ∧ 2 ≤ G ∧ G < P := by
  obtain ⟨h1, h2, h3, h4, h5, h6, -⟩ := h
  have hk : P - 1 = Q * ((P - 1) / Q) := by
    have := Nat.div_add_mod (P - 1) Q
    omega
  have hodd : P % 2 = 1 := by
    rcases (show P % 2 = 0 ∨ P % 2 = 1 by omega) with q | q
    · exact absurd q (h1.2 2 (by omega) (by omega))
    · exact q
  have hqo : Q % 2 = 1 := by
    rcases (show Q % 2 = 0 ∨ Q % 2 = 1 by omega) with q | q
    · exact absurd q (h2.2 2 (by omega) (by omega))
    · exact q
  generalize (P - 1) / Q = k at hk
  have hk2 : 2 ≤ k := by
    rcases Nat.lt_or_ge k 2 with q | q
    · rcases (show k = 0 ∨ k = 1 by omega) with w | w <;> rw [w] at hk <;> omega
    · exact q
  have := Nat.mul_le_mul_left Q hk2
  omega
theorem dk_lt1 {x : Int32} {Q : Nat} (h0 : 1 ≤ Q) (hQ : Q < 2147483648) : x ≤ nI Q - 1 ↔ x < nI Q := by
  have e : nI Q - 1 = nI (Q - 1) := pk_sub (b := 1) h0
  rw [e, Int32.le_iff_toInt_le, Int32.lt_iff_toInt_lt, nI_toInt (by omega), nI_toInt (by omega)]
  omega
theorem dk_ge0 {x : Int32} (h : 0 ≤ x) : ∃ j : Nat, j < 2147483648 ∧ x = nI j := by
  obtain ⟨j, h1, h2⟩ := nI_of (x := x) (fun q => Int32.lt_irrefl (Int32.lt_of_lt_of_le q h))
  exact ⟨j, by omega, h2⟩
theorem dk_ex_of {x : Int32} {Q : Nat} (hQ : Q < 2147483648) (h : dk_ex x (nI Q)) : ∃ j : Nat, 1 ≤ j ∧ j < Q ∧ x = nI j := by
  obtain ⟨j, h1, rfl⟩ := dk_ge0 (x := x) (Int32.le_trans (by decide) h.1)
  exact ⟨j, (nI_leI (a := 1) (by omega) (by omega)).mp h.1, (nI_ltI (by omega) (by omega)).mp h.2, rfl⟩
theorem dk_pe_of {x : Int32} {P : Nat} (h3 : 3 ≤ P) (hP : P < 2147483648) : dk_pe x (nI P) ↔ ∃ j : Nat, 2 ≤ j ∧ j ≤ P - 2 ∧ x = nI j := by
  have e : nI P - 2 = nI (P - 2) := pk_sub (b := 2) (by omega)
  unfold dk_pe
  rw [e]
  constructor
  · intro h
    obtain ⟨j, h1, rfl⟩ := dk_ge0 (x := x) (Int32.le_trans (by decide) h.1)
    exact ⟨j, (nI_leI (a := 2) (by omega) (by omega)).mp h.1, (nI_leI (by omega) (by omega)).mp h.2, rfl⟩
  · rintro ⟨j, h1, h2, rfl⟩
    exact ⟨nI_le h1 (by omega), nI_le h2 (by omega)⟩
theorem dk_not_lt {x y : Int32} : ¬ x < y ↔ y ≤ x := Int32.not_lt
theorem dk_not_le {x y : Int32} : ¬ x ≤ y ↔ y < x := Int32.not_le
theorem dk_sw3 (x : Int32) : x = 0 ∨ x = 1 ∨ x = 2 ∨ (x.toInt < 0 ∨ 2 < x.toInt) ∧ ¬ x = 0 ∧ ¬ x = 1 ∧ ¬ x = 2 := by
  by_cases h0 : x = 0
  · exact Or.inl h0
  by_cases h1 : x = 1
  · exact Or.inr (Or.inl h1)
  by_cases h2 : x = 2
  · exact Or.inr (Or.inr (Or.inl h2))
  refine Or.inr (Or.inr (Or.inr ⟨?_, h0, h1, h2⟩))
  rcases pk_ix x (n := 3) (by decide) with q | q | ⟨j, q1, q2⟩
  · exact Or.inl (by rw [Int32.lt_iff_toInt_lt] at q; exact q)
  · refine Or.inr ?_
    rw [Int32.le_iff_toInt_le, nI_toInt (by decide)] at q
    omega
  · rcases (show j = 0 ∨ j = 1 ∨ j = 2 by omega) with rfl | rfl | rfl
    · exact absurd q2 h0
    · exact absurd q2 h1
    · exact absurd q2 h2
theorem dk_sw4 (x : Int32) : x = 0 ∨ x = 1 ∨ x = 2 ∨ x = 3 ∨ (x.toInt < 0 ∨ 3 < x.toInt) ∧ ¬ x = 0 ∧ ¬ x = 1 ∧ ¬ x = 2 ∧ ¬ x = 3 := by
  rcases dk_sw3 x with h | h | h | ⟨h, h0, h1, h2⟩
  · exact Or.inl h
  · exact Or.inr (Or.inl h)
  · exact Or.inr (Or.inr (Or.inl h))
  by_cases h3 : x = 3
  · exact Or.inr (Or.inr (Or.inr (Or.inl h3)))
  refine Or.inr (Or.inr (Or.inr (Or.inr ⟨?_, h0, h1, h2, h3⟩)))
  rcases h with h | h
  · exact Or.inl h
  · refine Or.inr ?_
    rcases Int.lt_or_le 3 x.toInt with q | q
    · exact q
    · exact absurd (Int32.toInt_inj.mp (show x.toInt = (3 : Int32).toInt by rw [show (3 : Int32).toInt = 3 from rfl]; omega)) h3
end
section
set_option maxHeartbeats 4000000 in
set_option maxRecDepth 100000 in
theorem dk_c_isExponent (l : Launch) (dC : Nat → ClassId) (dI : Nat → Nat → Nat) (h0 h1 h2 : Nat) (a1 a2 : ClassId) (cp cq : Int32) (cs : Int64) (cn dp dq dg : Int32) (se pu : Nat → Int32) (x : Int32) : Met l yX0_isExponent wsX0_isExponent ({ frames := 0, cells := 0, slots := 0, locals := 0 }) (va_Pc [.ref h0, .int x] (fun U => va_P (dC, dI) vwCl [(h0, .inr (0, [.int cp, .int cq, .long cs, .int cn, .int dp, .int dq, .int dg, .ref h1, .ref h2])), (h1, .inl (a1, 8, .inl se)), (h2, .inl (a2, 8, .inl pu))] U.heap ∧ va_K (dC, dI) vwCl [(a1, .int), (a2, .int)] U)) (vp_Si (fun r9 => r9 = if dk_ex x dq then 1 else 0)) 0 0 (fun _ => False) := by
  refine Met.ofW (cc := cX0_isExponent) (maxL := 2) (ret := (some .boolean)) (by decide) rfl ?_
  intro p e s m args below meth c s₁ B hml hv
  obtain ⟨rfl, hP, hK⟩ := hv
  have hx := B.exec
  have hb := B.bytes
  have hr := B.returns
  have hts := atoms_spec (ws := wsX0_isExponent) B.pre
  have hown : s.vm.findClass RX0 = some m.cls := findClass_of_methodNamed B.named
  have hlocks := B.notSynchronized
  have hl := lv_entry ([.ref h0, .int x]) (n := 2) (Nat.le_of_ble_eq_true rfl)
  rw [lg_entry_eq]
  generalize (lg_sl ([.ref h0, .int x]) ++ List.replicate (2 - (lg_sl ([.ref h0, .int x])).length) Slot.unset).toArray = ls at hl ⊢
  have hl : lv_has ls 2 [(0, .ref h0), (1, .int x)] := hl
  refine lv_iload_n hx hb dX0_isExponent_0 rfl (lv_at hl 1 rfl) ?_
  refine lv_iconst (v := 1) hx hb dX0_isExponent_1 (by decide) ?_
  refine lv_icmp_lt (tgt := 17) hx hb dX0_isExponent_2 (by decide) (fun c_2 => ?_) (fun c_2 => ?_)
  · have hno : ¬ dk_ex x dq := fun q => dk_not_lt.mpr q.1 c_2
    refine lv_iconst (v := 0) hx hb dX0_isExponent_17 (by decide) ?_
    exact W.zret (v := 0) (ty := .boolean) hx hb hr rfl (fun t ht hW => ⟨_, rfl, (if_neg (show ¬ (dk_ex x dq) from hno)).symm, ht⟩) (fun q h => nomatch h) dX0_isExponent_18
  · refine lv_iload_n hx hb dX0_isExponent_5 rfl (lv_at hl 1 rfl) ?_
    refine lv_aload_n hx hb dX0_isExponent_6 rfl (lv_at hl 0 rfl) ?_
    refine va_get (D := (dC, dI)) (ci := 0) (v := .int dq) (C := RX0) (T := TX0) (N := 9) hx hb hts (by decide +kernel) hown hK hP 0 rfl rfl 5 (by decide) (hts (.fieldLink RX0 66 "DomainKeys" "domainQ" "I") (by decide +kernel)) (fun _ h9 => h9) rfl dX0_isExponent_7 ?_
    refine lv_icmp_ge (tgt := 17) hx hb dX0_isExponent_10 (by decide) (fun c_10 => ?_) (fun c_10 => ?_)
    · have hno : ¬ dk_ex x dq := fun q => dk_not_lt.mpr c_10 q.2
      refine lv_iconst (v := 0) hx hb dX0_isExponent_17 (by decide) ?_
      exact W.zret (v := 0) (ty := .boolean) hx hb hr rfl (fun t ht hW => ⟨_, rfl, (if_neg (show ¬ (dk_ex x dq) from hno)).symm, ht⟩) (fun q h => nomatch h) dX0_isExponent_18
    · have hyes : dk_ex x dq := ⟨dk_not_lt.mp c_2, dk_not_le.mp c_10⟩
      refine lv_iconst (v := 1) hx hb dX0_isExponent_13 (by decide) ?_
      refine lv_goto (tgt := 18) hx hb dX0_isExponent_14 (by decide) ?_
      exact W.zret (v := 1) (ty := .boolean) hx hb hr rfl (fun t ht hW => ⟨_, rfl, (if_pos (show dk_ex x dq from hyes)).symm, ht⟩) (fun q h => nomatch h) dX0_isExponent_18

set_option maxHeartbeats 4000000 in
set_option maxRecDepth 100000 in
theorem dk_c_isPeer (l : Launch) (dC : Nat → ClassId) (dI : Nat → Nat → Nat) (h0 h1 h2 : Nat) (a1 a2 : ClassId) (cp cq : Int32) (cs : Int64) (cn dp dq dg : Int32) (se pu : Nat → Int32) (x : Int32) : Met l yX0_isPeer wsX0_isPeer ({ frames := 0, cells := 0, slots := 0, locals := 0 }) (va_Pc [.ref h0, .int x] (fun U => va_P (dC, dI) vwCl [(h0, .inr (0, [.int cp, .int cq, .long cs, .int cn, .int dp, .int dq, .int dg, .ref h1, .ref h2])), (h1, .inl (a1, 8, .inl se)), (h2, .inl (a2, 8, .inl pu))] U.heap ∧ va_K (dC, dI) vwCl [(a1, .int), (a2, .int)] U)) (vp_Si (fun r9 => r9 = if dk_pe x dp then 1 else 0)) 0 0 (fun _ => False) := by
  refine Met.ofW (cc := cX0_isPeer) (maxL := 2) (ret := (some .boolean)) (by decide) rfl ?_
  intro p e s m args below meth c s₁ B hml hv
  obtain ⟨rfl, hP, hK⟩ := hv
  have hx := B.exec
  have hb := B.bytes
  have hr := B.returns
  have hts := atoms_spec (ws := wsX0_isPeer) B.pre
  have hown : s.vm.findClass RX0 = some m.cls := findClass_of_methodNamed B.named
  have hlocks := B.notSynchronized
  have hl := lv_entry ([.ref h0, .int x]) (n := 2) (Nat.le_of_ble_eq_true rfl)
  rw [lg_entry_eq]
  generalize (lg_sl ([.ref h0, .int x]) ++ List.replicate (2 - (lg_sl ([.ref h0, .int x])).length) Slot.unset).toArray = ls at hl ⊢
  have hl : lv_has ls 2 [(0, .ref h0), (1, .int x)] := hl
  refine lv_iload_n hx hb dX0_isPeer_0 rfl (lv_at hl 1 rfl) ?_
  refine lv_iconst (v := 2) hx hb dX0_isPeer_1 (by decide) ?_
  refine lv_icmp_lt (tgt := 19) hx hb dX0_isPeer_2 (by decide) (fun c_2 => ?_) (fun c_2 => ?_)
  · have hno : ¬ dk_pe x dp := fun q => dk_not_lt.mpr q.1 c_2
    refine lv_iconst (v := 0) hx hb dX0_isPeer_19 (by decide) ?_
    exact W.zret (v := 0) (ty := .boolean) hx hb hr rfl (fun t ht hW => ⟨_, rfl, (if_neg (show ¬ (dk_pe x dp) from hno)).symm, ht⟩) (fun q h => nomatch h) dX0_isPeer_20
  · refine lv_iload_n hx hb dX0_isPeer_5 rfl (lv_at hl 1 rfl) ?_
    refine lv_aload_n hx hb dX0_isPeer_6 rfl (lv_at hl 0 rfl) ?_
    refine va_get (D := (dC, dI)) (ci := 0) (v := .int dp) (C := RX0) (T := TX0) (N := 9) hx hb hts (by decide +kernel) hown hK hP 0 rfl rfl 4 (by decide) (hts (.fieldLink RX0 63 "DomainKeys" "domainP" "I") (by decide +kernel)) (fun _ h9 => h9) rfl dX0_isPeer_7 ?_
    refine lv_iconst (v := 2) hx hb dX0_isPeer_10 (by decide) ?_
    refine lv_isub hx hb dX0_isPeer_11 ?_
    refine lv_icmp_gt (tgt := 19) hx hb dX0_isPeer_12 (by decide) (fun c_12 => ?_) (fun c_12 => ?_)
    · have hno : ¬ dk_pe x dp := fun q => dk_not_lt.mpr q.2 c_12
      refine lv_iconst (v := 0) hx hb dX0_isPeer_19 (by decide) ?_
      exact W.zret (v := 0) (ty := .boolean) hx hb hr rfl (fun t ht hW => ⟨_, rfl, (if_neg (show ¬ (dk_pe x dp) from hno)).symm, ht⟩) (fun q h => nomatch h) dX0_isPeer_20
    · have hyes : dk_pe x dp := ⟨dk_not_lt.mp c_2, dk_not_lt.mp c_12⟩
      refine lv_iconst (v := 1) hx hb dX0_isPeer_15 (by decide) ?_
      refine lv_goto (tgt := 20) hx hb dX0_isPeer_16 (by decide) ?_
      exact W.zret (v := 1) (ty := .boolean) hx hb hr rfl (fun t ht hW => ⟨_, rfl, (if_pos (show dk_pe x dp from hyes)).symm, ht⟩) (fun q h => nomatch h) dX0_isPeer_20

set_option maxHeartbeats 4000000 in
set_option maxRecDepth 100000 in
theorem dk_c_candidate (l : Launch) (dC : Nat → ClassId) (dI : Nat → Nat → Nat) (h0 h1 h2 : Nat) (a1 a2 : ClassId) (cp cq : Int32) (cs : Int64) (cn dp dq dg : Int32) (se pu : Nat → Int32) (x : Int32) : Met l yX0_candidate wsX0_candidate ({ frames := 0, cells := 0, slots := 0, locals := 0 }) (va_Pc [.ref h0, .int x] (fun U => va_P (dC, dI) vwCl [(h0, .inr (0, [.int cp, .int cq, .long cs, .int cn, .int dp, .int dq, .int dg, .ref h1, .ref h2])), (h1, .inl (a1, 8, .inl se)), (h2, .inl (a2, 8, .inl pu))] U.heap ∧ va_K (dC, dI) vwCl [(a1, .int), (a2, .int)] U)) (vp_Sl (fun r9 => r9 = dk_fcand cp cq cs cn x)) 0 0 (fun _ => False) := by
  refine Met.ofW (cc := cX0_candidate) (maxL := 2) (ret := (some .long)) (by decide) rfl ?_
  intro p e s m args below meth c s₁ B hml hv
  obtain ⟨rfl, hP, hK⟩ := hv
  have hx := B.exec
  have hb := B.bytes
  have hr := B.returns
  have hts := atoms_spec (ws := wsX0_candidate) B.pre
  have hown : s.vm.findClass RX0 = some m.cls := findClass_of_methodNamed B.named
  have hlocks := B.notSynchronized
  have hl := lv_entry ([.ref h0, .int x]) (n := 2) (Nat.le_of_ble_eq_true rfl)
  rw [lg_entry_eq]
  generalize (lg_sl ([.ref h0, .int x]) ++ List.replicate (2 - (lg_sl ([.ref h0, .int x])).length) Slot.unset).toArray = ls at hl ⊢
  have hl : lv_has ls 2 [(0, .ref h0), (1, .int x)] := hl
  refine lv_iload_n hx hb dX0_candidate_0 rfl (lv_at hl 1 rfl) ?_
  rcases dk_sw4 x with h_sw | h_sw | h_sw | h_sw | ⟨h_sw, h_sw0, h_sw1, h_sw2, h_sw3⟩
  · subst h_sw
    refine lv_tableIn (tgt := 32) (off := 31) hx hb dX0_candidate_1 (by decide) (by decide) (by decide) (by decide) ?_
    refine lv_aload_n hx hb dX0_candidate_32 rfl (lv_at hl 0 rfl) ?_
    refine va_get (D := (dC, dI)) (ci := 0) (v := .int cp) (C := RX0) (T := TX0) (N := 9) hx hb hts (by decide +kernel) hown hK hP 0 rfl rfl 0 (by decide) (hts (.fieldLink RX0 31 "DomainKeys" "candidateP" "I") (by decide +kernel)) (fun _ h9 => h9) rfl dX0_candidate_33 ?_
    refine lv_i2l hx hb dX0_candidate_36 rfl ?_
    exact W.lret (v := cp.toInt64) hx hb hr (fun t ht hW => ⟨_, rfl, rfl, ht⟩) (fun q h => nomatch h) dX0_candidate_37
  · subst h_sw
    refine lv_tableIn (tgt := 38) (off := 37) hx hb dX0_candidate_1 (by decide) (by decide) (by decide) (by decide) ?_
    refine lv_aload_n hx hb dX0_candidate_38 rfl (lv_at hl 0 rfl) ?_
    refine va_get (D := (dC, dI)) (ci := 0) (v := .int cq) (C := RX0) (T := TX0) (N := 9) hx hb hts (by decide +kernel) hown hK hP 0 rfl rfl 1 (by decide) (hts (.fieldLink RX0 23 "DomainKeys" "candidateQ" "I") (by decide +kernel)) (fun _ h9 => h9) rfl dX0_candidate_39 ?_
    refine lv_i2l hx hb dX0_candidate_42 rfl ?_
    exact W.lret (v := cq.toInt64) hx hb hr (fun t ht hW => ⟨_, rfl, rfl, ht⟩) (fun q h => nomatch h) dX0_candidate_43
  · subst h_sw
    refine lv_tableIn (tgt := 44) (off := 43) hx hb dX0_candidate_1 (by decide) (by decide) (by decide) (by decide) ?_
    refine lv_aload_n hx hb dX0_candidate_44 rfl (lv_at hl 0 rfl) ?_
    refine va_get (D := (dC, dI)) (ci := 0) (v := .long cs) (C := RX0) (T := TX0) (N := 9) hx hb hts (by decide +kernel) hown hK hP 0 rfl rfl 2 (by decide) (hts (.fieldLink RX0 34 "DomainKeys" "candidateSeed" "J") (by decide +kernel)) (fun _ h9 => h9) rfl dX0_candidate_45 ?_
    exact W.lret (v := cs) hx hb hr (fun t ht hW => ⟨_, rfl, rfl, ht⟩) (fun q h => nomatch h) dX0_candidate_48
  · subst h_sw
    refine lv_tableIn (tgt := 49) (off := 48) hx hb dX0_candidate_1 (by decide) (by decide) (by decide) (by decide) ?_
    refine lv_aload_n hx hb dX0_candidate_49 rfl (lv_at hl 0 rfl) ?_
    refine va_get (D := (dC, dI)) (ci := 0) (v := .int cn) (C := RX0) (T := TX0) (N := 9) hx hb hts (by decide +kernel) hown hK hP 0 rfl rfl 3 (by decide) (hts (.fieldLink RX0 38 "DomainKeys" "candidateCounter" "I") (by decide +kernel)) (fun _ h9 => h9) rfl dX0_candidate_50 ?_
    refine lv_i2l hx hb dX0_candidate_53 rfl ?_
    exact W.lret (v := cn.toInt64) hx hb hr (fun t ht hW => ⟨_, rfl, rfl, ht⟩) (fun q h => nomatch h) dX0_candidate_54
  · refine lv_tableOut (tgt := 55) hx hb dX0_candidate_1 h_sw (by decide) ?_
    refine lv_lconst (v := 0) hx hb dX0_candidate_55 (by decide) ?_
    exact W.lret (v := 0) hx hb hr (fun t ht hW => ⟨_, rfl, (by rw [dk_fcand, if_neg h_sw0, if_neg h_sw1, if_neg h_sw2, if_neg h_sw3]), ht⟩) (fun q h => nomatch h) dX0_candidate_56

set_option maxHeartbeats 4000000 in
set_option maxRecDepth 100000 in
theorem dk_c_domain (l : Launch) (dC : Nat → ClassId) (dI : Nat → Nat → Nat) (h0 h1 h2 : Nat) (a1 a2 : ClassId) (cp cq : Int32) (cs : Int64) (cn dp dq dg : Int32) (se pu : Nat → Int32) (x : Int32) : Met l yX0_domain wsX0_domain ({ frames := 0, cells := 0, slots := 0, locals := 0 }) (va_Pc [.ref h0, .int x] (fun U => va_P (dC, dI) vwCl [(h0, .inr (0, [.int cp, .int cq, .long cs, .int cn, .int dp, .int dq, .int dg, .ref h1, .ref h2])), (h1, .inl (a1, 8, .inl se)), (h2, .inl (a2, 8, .inl pu))] U.heap ∧ va_K (dC, dI) vwCl [(a1, .int), (a2, .int)] U)) (vp_Si (fun r9 => r9 = dk_fdom dp dq dg x)) 0 0 (fun _ => False) := by
  refine Met.ofW (cc := cX0_domain) (maxL := 2) (ret := (some .int)) (by decide) rfl ?_
  intro p e s m args below meth c s₁ B hml hv
  obtain ⟨rfl, hP, hK⟩ := hv
  have hx := B.exec
  have hb := B.bytes
  have hr := B.returns
  have hts := atoms_spec (ws := wsX0_domain) B.pre
  have hown : s.vm.findClass RX0 = some m.cls := findClass_of_methodNamed B.named
  have hlocks := B.notSynchronized
  have hl := lv_entry ([.ref h0, .int x]) (n := 2) (Nat.le_of_ble_eq_true rfl)
  rw [lg_entry_eq]
  generalize (lg_sl ([.ref h0, .int x]) ++ List.replicate (2 - (lg_sl ([.ref h0, .int x])).length) Slot.unset).toArray = ls at hl ⊢
  have hl : lv_has ls 2 [(0, .ref h0), (1, .int x)] := hl
  refine lv_iload_n hx hb dX0_domain_0 rfl (lv_at hl 1 rfl) ?_
  rcases dk_sw3 x with h_sw | h_sw | h_sw | ⟨h_sw, h_sw0, h_sw1, h_sw2⟩
  · subst h_sw
    refine lv_tableIn (tgt := 28) (off := 27) hx hb dX0_domain_1 (by decide) (by decide) (by decide) (by decide) ?_
    refine lv_aload_n hx hb dX0_domain_28 rfl (lv_at hl 0 rfl) ?_
    refine va_get (D := (dC, dI)) (ci := 0) (v := .int dp) (C := RX0) (T := TX0) (N := 9) hx hb hts (by decide +kernel) hown hK hP 0 rfl rfl 4 (by decide) (hts (.fieldLink RX0 63 "DomainKeys" "domainP" "I") (by decide +kernel)) (fun _ h9 => h9) rfl dX0_domain_29 ?_
    exact W.iret (v := dp) hx hb hr (fun t ht hW => ⟨_, rfl, rfl, ht⟩) (fun q h => nomatch h) dX0_domain_32
  · subst h_sw
    refine lv_tableIn (tgt := 33) (off := 32) hx hb dX0_domain_1 (by decide) (by decide) (by decide) (by decide) ?_
    refine lv_aload_n hx hb dX0_domain_33 rfl (lv_at hl 0 rfl) ?_
    refine va_get (D := (dC, dI)) (ci := 0) (v := .int dq) (C := RX0) (T := TX0) (N := 9) hx hb hts (by decide +kernel) hown hK hP 0 rfl rfl 5 (by decide) (hts (.fieldLink RX0 66 "DomainKeys" "domainQ" "I") (by decide +kernel)) (fun _ h9 => h9) rfl dX0_domain_34 ?_
    exact W.iret (v := dq) hx hb hr (fun t ht hW => ⟨_, rfl, rfl, ht⟩) (fun q h => nomatch h) dX0_domain_37
  · subst h_sw
    refine lv_tableIn (tgt := 38) (off := 37) hx hb dX0_domain_1 (by decide) (by decide) (by decide) (by decide) ?_
    refine lv_aload_n hx hb dX0_domain_38 rfl (lv_at hl 0 rfl) ?_
    refine va_get (D := (dC, dI)) (ci := 0) (v := .int dg) (C := RX0) (T := TX0) (N := 9) hx hb hts (by decide +kernel) hown hK hP 0 rfl rfl 6 (by decide) (hts (.fieldLink RX0 69 "DomainKeys" "domainG" "I") (by decide +kernel)) (fun _ h9 => h9) rfl dX0_domain_39 ?_
    exact W.iret (v := dg) hx hb hr (fun t ht hW => ⟨_, rfl, rfl, ht⟩) (fun q h => nomatch h) dX0_domain_42
  · refine lv_tableOut (tgt := 43) hx hb dX0_domain_1 h_sw (by decide) ?_
    refine lv_iconst (v := 0) hx hb dX0_domain_43 (by decide) ?_
    exact W.iret (v := 0) hx hb hr (fun t ht hW => ⟨_, rfl, (by rw [dk_fdom, if_neg h_sw0, if_neg h_sw1, if_neg h_sw2]), ht⟩) (fun q h => nomatch h) dX0_domain_44

set_option maxHeartbeats 4000000 in
set_option maxRecDepth 100000 in
theorem dk_c_digest (l : Launch) (h0 : Nat) (a : Int64) : Met l yX0_digest wsX0_digest ({ frames := 1, cells := 0, slots := 0, locals := 25 }) (va_Pc [.ref h0, .long a] (fun _ => True)) (vp_Si (fun r9 => r9 = nI (dk_z a))) 0 0 (fun _ => False) := by
  refine Met.ofW (cc := cX0_digest) (maxL := 3) (ret := (some .int)) (by decide) rfl ?_
  intro p e s m args below meth c s₁ B hml hv
  obtain ⟨rfl, -⟩ := hv
  have hx := B.exec
  have hb := B.bytes
  have hr := B.returns
  have hts := atoms_spec (ws := wsX0_digest) B.pre
  have hown : s.vm.findClass RX0 = some m.cls := findClass_of_methodNamed B.named
  have hlocks := B.notSynchronized
  have hl := lv_entry ([.ref h0, .long a]) (n := 3) (Nat.le_of_ble_eq_true rfl)
  rw [lg_entry_eq]
  generalize (lg_sl ([.ref h0, .long a]) ++ List.replicate (3 - (lg_sl ([.ref h0, .long a])).length) Slot.unset).toArray = ls at hl ⊢
  have hl : lv_has ls 3 [(0, .ref h0), (1, .long a)] := hl
  refine lv_lload_n hx hb dX0_digest_0 rfl (lv_at hl 1 rfl) ?_
  refine lv_ldc2 (v := 3) hx hb hown (hts (.constantLong RX0 103 3) (by decide +kernel)) dX0_digest_1 ?_
  refine vp_callSl (W.runS (As := [.long a, .long 3]) (rest := []) ⟨hx, hb, hml, hown, hts⟩ (dk_c_mix l a 3) (va_cwS 2 hts gX0_digest_X0_mix rfl rfl rfl (by decide +kernel) ⟨Nat.le_of_ble_eq_true rfl, Nat.le_of_ble_eq_true rfl⟩) ⟨fun _ _ _ _ q9 => q9, fun U hU hW => ⟨rfl, trivial⟩⟩ rfl rfl hl.1 rfl (lv_room (Nat.le_of_ble_eq_true rfl)) dX0_digest_4 ⟨Nat.le_of_ble_eq_true rfl, Nat.le_of_ble_eq_true rfl⟩) (fun r_4 hr_4 => ?_)
  subst hr_4
  refine lv_bipush (v := 49) hx hb dX0_digest_7 (by decide) ?_
  refine lv_lushr hx hb dX0_digest_9 rfl ?_
  refine lv_topl (fun v_9 ev_9 => ?_)
  have ev_9 : v_9 = lN (dk_z a) := ev_9.trans (dk_hus a 3 (k := 49) (by decide))
  subst ev_9
  refine lv_l2i hx hb dX0_digest_10 rfl ?_
  refine lv_topi (fun v_10 ev_10 => ?_)
  have ev_10 : v_10 = nI (dk_z a) := ev_10.trans (lN_i _)
  subst ev_10
  exact W.iret (v := (nI (dk_z a))) hx hb hr (fun t ht hW => ⟨_, rfl, rfl, ht⟩) (fun q h => nomatch h) dX0_digest_11

set_option maxHeartbeats 4000000 in
set_option maxRecDepth 100000 in
theorem dk_c_valid (l : Launch) (h0 : Nat) (x y : Int32) (sd : Int64) (n : Int32) : Met l yX0_valid wsX0_valid ({ frames := 3, cells := 0, slots := 0, locals := 74 }) (va_Pc [.ref h0, .int x, .int y, .long sd, .int n] (fun _ => True)) (vp_Si (fun r9 => (r9 = 1 ∧ dk_val x y sd n) ∨ (r9 = 0 ∧ ¬ dk_val x y sd n))) 0 0 (fun _ => False) := by
  refine Met.ofW (cc := cX0_valid) (maxL := 6) (ret := (some .boolean)) (by decide) rfl ?_
  intro p e s m args below meth c s₁ B hml hv
  obtain ⟨rfl, -⟩ := hv
  have hx := B.exec
  have hb := B.bytes
  have hr := B.returns
  have hts := atoms_spec (ws := wsX0_valid) B.pre
  have hown : s.vm.findClass RX0 = some m.cls := findClass_of_methodNamed B.named
  have hlocks := B.notSynchronized
  have hl := lv_entry ([.ref h0, .int x, .int y, .long sd, .int n]) (n := 6) (Nat.le_of_ble_eq_true rfl)
  rw [lg_entry_eq]
  generalize (lg_sl ([.ref h0, .int x, .int y, .long sd, .int n]) ++ List.replicate (6 - (lg_sl ([.ref h0, .int x, .int y, .long sd, .int n])).length) Slot.unset).toArray = ls at hl ⊢
  have hl : lv_has ls 6 [(0, .ref h0), (1, .int x), (2, .int y), (3, .long sd), (5, .int n)] := hl
  refine lv_iload hx hb dX0_valid_0 (lv_at hl 4 rfl) ?_
  refine lv_if_lt (tgt := 37) hx hb dX0_valid_2 (by decide) (fun c_2 => ?_) (fun c_2 => ?_)
  · have hno : ¬ dk_val x y sd n := fun ⟨d0, d, d1, d2, d3, d4, d5, d6⟩ => by
      rw [d4] at c_2
      exact nI_pos (by omega) c_2
    refine lv_iconst (v := 0) hx hb dX0_valid_37 (by decide) ?_
    exact W.zret (v := 0) (ty := .boolean) hx hb hr rfl (fun t ht hW => ⟨_, rfl, Or.inr ⟨rfl, hno⟩, ht⟩) (fun q h => nomatch h) dX0_valid_38
  · refine lv_iload_n hx hb dX0_valid_5 rfl (lv_at hl 2 rfl) ?_
    refine lv_lload_n hx hb dX0_valid_6 rfl (lv_at hl 3 rfl) ?_
    refine vp_callSi (W.runS (As := [.long sd]) (rest := [.int y]) ⟨hx, hb, hml, hown, hts⟩ (dk_c_orderFrom l sd) (va_cwS 1 hts gX0_valid_X0_orderFrom rfl rfl rfl (by decide +kernel) ⟨Nat.le_of_ble_eq_true rfl, Nat.le_of_ble_eq_true rfl⟩) ⟨fun _ _ _ _ q9 => q9, fun U hU hW => ⟨rfl, trivial⟩⟩ rfl rfl hl.1 rfl (lv_room (Nat.le_of_ble_eq_true rfl)) dX0_valid_7 ⟨Nat.le_of_ble_eq_true rfl, Nat.le_of_ble_eq_true rfl⟩) (fun r_7 hr_7 => ?_)
    subst hr_7
    refine lv_icmp_ne (tgt := 37) hx hb dX0_valid_10 (by decide) (fun c_10 => ?_) (fun c_10 => ?_)
    · have hno : ¬ dk_val x y sd n := fun ⟨d0, d, d1, d2, d3, d4, d5, d6⟩ => by
        exact c_10 d5
      refine lv_iconst (v := 0) hx hb dX0_valid_37 (by decide) ?_
      exact W.zret (v := 0) (ty := .boolean) hx hb hr rfl (fun t ht hW => ⟨_, rfl, Or.inr ⟨rfl, hno⟩, ht⟩) (fun q h => nomatch h) dX0_valid_38
    · refine lv_iload hx hb dX0_valid_13 (lv_at hl 4 rfl) ?_
      refine lv_lload_n hx hb dX0_valid_15 rfl (lv_at hl 3 rfl) ?_
      refine vp_callSi (W.runS (As := [.long sd]) (rest := [.int n]) ⟨hx, hb, hml, hown, hts⟩ (dk_c_counterFrom l sd) (va_cwS 1 hts gX0_valid_X0_counterFrom rfl rfl rfl (by decide +kernel) ⟨Nat.le_of_ble_eq_true rfl, Nat.le_of_ble_eq_true rfl⟩) ⟨fun _ _ _ _ q9 => q9, fun U hU hW => ⟨rfl, trivial⟩⟩ rfl rfl hl.1 rfl (lv_room (Nat.le_of_ble_eq_true rfl)) dX0_valid_16 ⟨Nat.le_of_ble_eq_true rfl, Nat.le_of_ble_eq_true rfl⟩) (fun r_16 hr_16 => ?_)
      refine lv_icmp_ne (tgt := 37) hx hb dX0_valid_19 (by decide) (fun c_19 => ?_) (fun c_19 => ?_)
      · have hno : ¬ dk_val x y sd n := fun ⟨d0, d, d1, d2, d3, d4, d5, d6⟩ => by
          exact c_19 (dk_Mk_one (Or.inr (Or.inl ⟨d0, d, d1, d2, d3, d4⟩)) hr_16)
        refine lv_iconst (v := 0) hx hb dX0_valid_37 (by decide) ?_
        exact W.zret (v := 0) (ty := .boolean) hx hb hr rfl (fun t ht hW => ⟨_, rfl, Or.inr ⟨rfl, hno⟩, ht⟩) (fun q h => nomatch h) dX0_valid_38
      · subst c_10
        obtain ⟨c9, hc1, hc2, hc3, hq1, rfl⟩ : ∃ c9 : Nat, c9 < 64 ∧ dk_ok sd c9 ∧ (∀ j, j < c9 → ¬ dk_ok sd j) ∧ dk_pr (dk_q sd) ∧ n = nI c9 := by
          rw [← c_19] at hr_16
          rcases hr_16 with ⟨-, q⟩ | ⟨q1, c9, q2, q3, q4, q⟩ | ⟨-, -, q⟩
          · exact absurd (by rw [q]; decide) c_2
          · exact ⟨c9, q2, q3, q4, q1, q⟩
          · exact absurd (by rw [q]; decide) c_2
        refine lv_iload_n hx hb dX0_valid_22 rfl (lv_at hl 1 rfl) ?_
        refine lv_lload_n hx hb dX0_valid_23 rfl (lv_at hl 3 rfl) ?_
        refine lv_iload_n hx hb dX0_valid_24 rfl (lv_at hl 2 rfl) ?_
        refine lv_iload hx hb dX0_valid_25 (lv_at hl 4 rfl) ?_
        refine vp_callSi (W.runS (As := [.long sd, .int (nI (dk_q sd)), .int (nI c9)]) (rest := [.int x]) ⟨hx, hb, hml, hown, hts⟩ (dk_c_fieldTry l sd c9 hc1) (va_cwS 3 hts gX0_valid_X0_fieldTry rfl rfl rfl (by decide +kernel) ⟨Nat.le_of_ble_eq_true rfl, Nat.le_of_ble_eq_true rfl⟩) ⟨fun _ _ _ _ q9 => q9, fun U hU hW => ⟨rfl, trivial⟩⟩ rfl rfl hl.1 rfl (lv_room (Nat.le_of_ble_eq_true rfl)) dX0_valid_27 ⟨Nat.le_of_ble_eq_true rfl, Nat.le_of_ble_eq_true rfl⟩) (fun r_27 hr_27 => ?_)
        subst hr_27
        refine lv_icmp_ne (tgt := 37) hx hb dX0_valid_30 (by decide) (fun c_30 => ?_) (fun c_30 => ?_)
        · have hno : ¬ dk_val x (nI (dk_q sd)) sd (nI c9) := fun ⟨d0, d, d1, d2, d3, d4, d5, d6⟩ => by
            have q1 : c9 = d := (nI_eq (by omega) (by omega)).mp d4
            subst q1
            exact c_30 d6
          refine lv_iconst (v := 0) hx hb dX0_valid_37 (by decide) ?_
          exact W.zret (v := 0) (ty := .boolean) hx hb hr rfl (fun t ht hW => ⟨_, rfl, Or.inr ⟨rfl, hno⟩, ht⟩) (fun q h => nomatch h) dX0_valid_38
        · have hyes : dk_val x (nI (dk_q sd)) sd (nI c9) := ⟨hq1, c9, hc1, hc2, hc3, rfl, rfl, c_30⟩
          refine lv_iconst (v := 1) hx hb dX0_valid_33 (by decide) ?_
          refine lv_goto (tgt := 38) hx hb dX0_valid_34 (by decide) ?_
          exact W.zret (v := 1) (ty := .boolean) hx hb hr rfl (fun t ht hW => ⟨_, rfl, Or.inl ⟨rfl, hyes⟩, ht⟩) (fun q h => nomatch h) dX0_valid_38

set_option maxHeartbeats 4000000 in
set_option maxRecDepth 100000 in
theorem dk_generatorAt_loop {p : Program} {l : Launch} {e : Env} {s : State} {m : MethodId} {args : Array Value} {below : List Frame} {meth : Method} {c : Code} {Q : State → Prop} (dC : Nat → ClassId) (dI : Nat → Nat → Nat) (h0 h1 h2 : Nat) (a1 a2 : ClassId) (cp cq : Int32) (cs : Int64) (cn dp dq dg : Int32) (se pu : Nat → Int32) (P Q9 ix : Nat) (hP0 : 2 ≤ P) (hP9 : P < 2147483648) (hQ0 : 1 ≤ Q9) (hQ9 : Q9 < 2147483648) (hix : ix < 256) (hx : p.tables.exec = Jvm.exec) (hb : c.code = cX0_generatorAt) (hml : c.maxLocals = 8) (hown : s.vm.findClass RX0 = some m.cls) (hts : ∀ w ∈ wsX0_generatorAt, w.before args s = true) (hP : va_P (dC, dI) vwCl [(h0, .inr (0, [.int (nI P), .int (nI Q9), .long cs, .int cn, .int dp, .int dq, .int dg, .ref h1, .ref h2])), (h1, .inl (a1, 8, .inl se)), (h2, .inl (a2, 8, .inl pu))] s.heap) (hK : va_K (dC, dI) vwCl [(a1, .int), (a2, .int)] s) (k1 : ∀ (pc : Nat) (r : Int32) (ls : Array Slot), (pc = 75 ∨ pc = 83) → dk_Gn cs ix P Q9 r → W p l e (headSpec wsX0_generatorAt ({ frames := 1, cells := 0, slots := 0, locals := 25 })).room s m args below meth c s.heap [] 0 0 Q (F0 m pc ls [.int r])) :
    ∀ (n k9 : Nat) (ls : Array Slot), 102 ≤ k9 + n → 1 ≤ k9 → k9 ≤ 101 → (∀ j, 1 ≤ j → j < k9 → ¬ 1 < dk_g cs ix P Q9 j) → lv_has ls 8 [(0, .ref h0), (2, .long (dk_H cs (lN (100 + ix)))), (4, .int (nI ((P - 1) / Q9))), (5, .int (nI k9))] → W p l e (headSpec wsX0_generatorAt ({ frames := 1, cells := 0, slots := 0, locals := 25 })).room s m args below meth c s.heap [] 0 0 Q (F0 m 29 ls []) := by
  intro n
  induction n with
  | zero =>
    intro k9 ls h1 h2 h3
    exact absurd h1 (by omega)
  | succ n ih =>
    intro k9 ls h1 h2 h3 h4 hl
    have hg : dk_g cs ix P Q9 k9 < P := Nat.mod_lt _ (by omega)
    have hw9 : dk_w cs ix P k9 < P := Nat.mod_lt _ (by omega)
    have hcf : (P - 1) / Q9 ≤ P - 1 := Nat.div_le_self _ _
    have hhl := dk_hN_lt (dk_H cs (lN (100 + ix))) (lN k9)
    refine lv_iload hx hb dX0_generatorAt_29 (lv_at hl 3 rfl) ?_
    refine lv_bipush (v := 100) hx hb dX0_generatorAt_31 (by decide) ?_
    refine lv_icmp_gt (tgt := 82) hx hb dX0_generatorAt_33 (by decide) (fun c_33 => ?_) (fun c_33 => ?_)
    · have hk9 : 100 < k9 := (nI_ltI (by omega) (by omega)).mp c_33
      refine lv_iconst (v := 1) hx hb dX0_generatorAt_82 (by decide) ?_
      exact k1 83 _ ls (Or.inr rfl) (Or.inr ⟨fun j q1 q2 => h4 j q1 (by omega), rfl⟩)
    · have hk9 : k9 ≤ 100 := by
        rcases Nat.lt_or_ge 100 k9 with q | q
        · exact absurd ((nI_ltI (a := 100) (b := k9) (by omega) (by omega)).mpr q) c_33
        · exact q
      refine lv_lload_n hx hb dX0_generatorAt_36 rfl (lv_at hl 1 rfl) ?_
      refine lv_iload hx hb dX0_generatorAt_37 (lv_at hl 3 rfl) ?_
      refine lv_i2l hx hb dX0_generatorAt_39 rfl ?_
      refine lv_topl (fun v_39 ev_39 => ?_)
      have ev_39 : v_39 = lN k9 := ev_39.trans (nI_l (by omega))
      subst ev_39
      refine vp_callSl (W.runS (As := [.long (dk_H cs (lN (100 + ix))), .long (lN k9)]) (rest := []) ⟨hx, hb, hml, hown, hts⟩ (dk_c_mix l (dk_H cs (lN (100 + ix))) (lN k9)) (va_cwS 2 hts gX0_generatorAt_X0_mix rfl rfl rfl (by decide +kernel) ⟨Nat.le_of_ble_eq_true rfl, Nat.le_of_ble_eq_true rfl⟩) ⟨fun _ _ _ _ q9 => q9, fun U hU hW => ⟨rfl, trivial⟩⟩ rfl rfl hl.1 rfl (lv_room (Nat.le_of_ble_eq_true rfl)) dX0_generatorAt_40 ⟨Nat.le_of_ble_eq_true rfl, Nat.le_of_ble_eq_true rfl⟩) (fun r_40 hr_40 => ?_)
      subst hr_40
      refine lv_iconst (v := 1) hx hb dX0_generatorAt_43 (by decide) ?_
      refine lv_lushr hx hb dX0_generatorAt_44 rfl ?_
      refine lv_topl (fun v_44 ev_44 => ?_)
      have ev_44 : v_44 = lN (dk_hN (dk_H cs (lN (100 + ix))) (lN k9) / 2) := ev_44.trans (dk_hus _ _ (k := 1) (by decide))
      subst ev_44
      refine lv_aload_n hx hb dX0_generatorAt_45 rfl (lv_at hl 0 rfl) ?_
      refine va_get (D := (dC, dI)) (ci := 0) (v := .int (nI P)) (C := RX0) (T := TX0) (N := 9) hx hb hts (by decide +kernel) hown hK hP 0 rfl rfl 0 (by decide) (hts (.fieldLink RX0 31 "DomainKeys" "candidateP" "I") (by decide +kernel)) (fun _ h9 => h9) rfl dX0_generatorAt_46 ?_
      refine lv_i2l hx hb dX0_generatorAt_49 rfl ?_
      refine lv_topl (fun v_49 ev_49 => ?_)
      have ev_49 : v_49 = lN P := ev_49.trans (nI_l (by omega))
      subst ev_49
      refine lv_lrem hx hb dX0_generatorAt_50 (dk_lne (by omega) (by omega)) ?_
      refine lv_topl (fun v_50 ev_50 => ?_)
      have ev_50 : v_50 = lN (dk_w cs ix P k9) := ev_50.trans (pk_lRem (by omega) (by omega) (by omega))
      subst ev_50
      refine lv_l2i hx hb dX0_generatorAt_51 rfl ?_
      refine lv_topi (fun v_51 ev_51 => ?_)
      have ev_51 : v_51 = nI (dk_w cs ix P k9) := ev_51.trans (lN_i _)
      subst ev_51
      refine lv_istore (lv' := [(6, .int (nI (dk_w cs ix P k9))), (0, .ref h0), (2, .long (dk_H cs (lN (100 + ix)))), (4, .int (nI ((P - 1) / Q9))), (5, .int (nI k9))]) hx hb dX0_generatorAt_52 hl (by decide) rfl (fun ls hl => ?_)
      refine lv_iload hx hb dX0_generatorAt_54 (lv_at hl 0 rfl) ?_
      refine lv_iload hx hb dX0_generatorAt_56 (lv_at hl 3 rfl) ?_
      refine lv_aload_n hx hb dX0_generatorAt_58 rfl (lv_at hl 1 rfl) ?_
      refine va_get (D := (dC, dI)) (ci := 0) (v := .int (nI P)) (C := RX0) (T := TX0) (N := 9) hx hb hts (by decide +kernel) hown hK hP 0 rfl rfl 0 (by decide) (hts (.fieldLink RX0 31 "DomainKeys" "candidateP" "I") (by decide +kernel)) (fun _ h9 => h9) rfl dX0_generatorAt_59 ?_
      refine vp_callSi (W.runS (As := [.int (nI (dk_w cs ix P k9)), .int (nI ((P - 1) / Q9)), .int (nI P)]) (rest := []) ⟨hx, hb, hml, hown, hts⟩ (dk_c_power l (dk_w cs ix P k9) ((P - 1) / Q9) P (by omega) (by omega) hP0 hP9) (va_cwS 3 hts gX0_generatorAt_X0_power rfl rfl rfl (by decide +kernel) ⟨Nat.le_of_ble_eq_true rfl, Nat.le_of_ble_eq_true rfl⟩) ⟨fun _ _ _ _ q9 => q9, fun U hU hW => ⟨rfl, trivial⟩⟩ rfl rfl hl.1 rfl (lv_room (Nat.le_of_ble_eq_true rfl)) dX0_generatorAt_62 ⟨Nat.le_of_ble_eq_true rfl, Nat.le_of_ble_eq_true rfl⟩) (fun r_62 hr_62 => ?_)
      subst hr_62
      refine lv_istore (lv' := [(7, .int (nI (dk_g cs ix P Q9 k9))), (6, .int (nI (dk_w cs ix P k9))), (0, .ref h0), (2, .long (dk_H cs (lN (100 + ix)))), (4, .int (nI ((P - 1) / Q9))), (5, .int (nI k9))]) hx hb dX0_generatorAt_65 hl (by decide) rfl (fun ls hl => ?_)
      refine lv_iload hx hb dX0_generatorAt_67 (lv_at hl 0 rfl) ?_
      refine lv_iconst (v := 1) hx hb dX0_generatorAt_69 (by decide) ?_
      refine lv_icmp_le (tgt := 76) hx hb dX0_generatorAt_70 (by decide) (fun c_70 => ?_) (fun c_70 => ?_)
      · have hno : ¬ 1 < dk_g cs ix P Q9 k9 := fun q => by
          have := (nI_leI (b := 1) (by omega) (by omega)).mp c_70
          omega
        refine lv_iinc (v := (nI (k9 + 1))) (lv' := [(5, .int (nI (k9 + 1))), (7, .int (nI (dk_g cs ix P Q9 k9))), (6, .int (nI (dk_w cs ix P k9))), (0, .ref h0), (2, .long (dk_H cs (lN (100 + ix)))), (4, .int (nI ((P - 1) / Q9)))]) hx hb dX0_generatorAt_76 hl (k := 5) rfl (nI_1 k9) (by decide) rfl (fun ls hl => ?_)
        refine lv_goto (tgt := 29) hx hb dX0_generatorAt_79 (by decide) ?_
        exact ih (k9 + 1) ls (by omega) (by omega) (by omega) (fun j q1 q2 => if q : j < k9 then h4 j q1 q else by rw [show j = k9 by omega]; exact hno) (lv_sub hl [3, 4, 5, 0] rfl)
      · have hyes : 1 < dk_g cs ix P Q9 k9 := by
          rcases Nat.lt_or_ge 1 (dk_g cs ix P Q9 k9) with q | q
          · exact q
          · exact absurd ((nI_leI (a := dk_g cs ix P Q9 k9) (b := 1) (by omega) (by omega)).mpr q) c_70
        refine lv_iload hx hb dX0_generatorAt_73 (lv_at hl 0 rfl) ?_
        exact k1 75 _ ls (Or.inl rfl) (Or.inl ⟨k9, h2, hk9, hyes, h4, rfl⟩)

set_option maxHeartbeats 4000000 in
set_option maxRecDepth 100000 in
theorem dk_c_generatorAt (l : Launch) (dC : Nat → ClassId) (dI : Nat → Nat → Nat) (h0 h1 h2 : Nat) (a1 a2 : ClassId) (cp cq : Int32) (cs : Int64) (cn dp dq dg : Int32) (se pu : Nat → Int32) (P Q9 ix : Nat) (hP0 : 2 ≤ P) (hP9 : P < 2147483648) (hQ0 : 1 ≤ Q9) (hQ9 : Q9 < 2147483648) (hix : ix < 256) : Met l yX0_generatorAt wsX0_generatorAt ({ frames := 1, cells := 0, slots := 0, locals := 25 }) (va_Pc [.ref h0, .int (nI ix)] (fun U => va_P (dC, dI) vwCl [(h0, .inr (0, [.int (nI P), .int (nI Q9), .long cs, .int cn, .int dp, .int dq, .int dg, .ref h1, .ref h2])), (h1, .inl (a1, 8, .inl se)), (h2, .inl (a2, 8, .inl pu))] U.heap ∧ va_K (dC, dI) vwCl [(a1, .int), (a2, .int)] U)) (vp_Si (fun r9 => dk_Gn cs ix P Q9 r9)) 0 0 (fun _ => False) := by
  refine Met.ofW (cc := cX0_generatorAt) (maxL := 8) (ret := (some .int)) (by decide) rfl ?_
  intro p e s m args below meth c s₁ B hml hv
  obtain ⟨rfl, hP, hK⟩ := hv
  have hx := B.exec
  have hb := B.bytes
  have hr := B.returns
  have hts := atoms_spec (ws := wsX0_generatorAt) B.pre
  have hown : s.vm.findClass RX0 = some m.cls := findClass_of_methodNamed B.named
  have hlocks := B.notSynchronized
  have hl := lv_entry ([.ref h0, .int (nI ix)]) (n := 8) (Nat.le_of_ble_eq_true rfl)
  rw [lg_entry_eq]
  generalize (lg_sl ([.ref h0, .int (nI ix)]) ++ List.replicate (8 - (lg_sl ([.ref h0, .int (nI ix)])).length) Slot.unset).toArray = ls at hl ⊢
  have hl : lv_has ls 8 [(0, .ref h0), (1, .int (nI ix))] := hl
  refine lv_aload_n hx hb dX0_generatorAt_0 rfl (lv_at hl 0 rfl) ?_
  refine va_get (D := (dC, dI)) (ci := 0) (v := .long cs) (C := RX0) (T := TX0) (N := 9) hx hb hts (by decide +kernel) hown hK hP 0 rfl rfl 2 (by decide) (hts (.fieldLink RX0 34 "DomainKeys" "candidateSeed" "J") (by decide +kernel)) (fun _ h9 => h9) rfl dX0_generatorAt_1 ?_
  refine lv_bipush (v := 100) hx hb dX0_generatorAt_4 (by decide) ?_
  refine lv_iload_n hx hb dX0_generatorAt_6 rfl (lv_at hl 1 rfl) ?_
  refine lv_iadd hx hb dX0_generatorAt_7 ?_
  refine lv_topi (fun v_7 ev_7 => ?_)
  have ev_7 : v_7 = nI (100 + ix) := ev_7.trans (nI_add 100 ix)
  subst ev_7
  refine lv_i2l hx hb dX0_generatorAt_8 rfl ?_
  refine lv_topl (fun v_8 ev_8 => ?_)
  have ev_8 : v_8 = lN (100 + ix) := ev_8.trans (nI_l (by omega))
  subst ev_8
  refine vp_callSl (W.runS (As := [.long cs, .long (lN (100 + ix))]) (rest := []) ⟨hx, hb, hml, hown, hts⟩ (dk_c_mix l cs (lN (100 + ix))) (va_cwS 2 hts gX0_generatorAt_X0_mix rfl rfl rfl (by decide +kernel) ⟨Nat.le_of_ble_eq_true rfl, Nat.le_of_ble_eq_true rfl⟩) ⟨fun _ _ _ _ q9 => q9, fun U hU hW => ⟨rfl, trivial⟩⟩ rfl rfl hl.1 rfl (lv_room (Nat.le_of_ble_eq_true rfl)) dX0_generatorAt_9 ⟨Nat.le_of_ble_eq_true rfl, Nat.le_of_ble_eq_true rfl⟩) (fun r_9 hr_9 => ?_)
  subst hr_9
  refine lv_lstore_n (lv' := [(2, .long (dk_H cs (lN (100 + ix)))), (0, .ref h0), (1, .int (nI ix))]) hx hb dX0_generatorAt_12 rfl hl (by decide) rfl (fun ls hl => ?_)
  refine lv_aload_n hx hb dX0_generatorAt_13 rfl (lv_at hl 1 rfl) ?_
  refine va_get (D := (dC, dI)) (ci := 0) (v := .int (nI P)) (C := RX0) (T := TX0) (N := 9) hx hb hts (by decide +kernel) hown hK hP 0 rfl rfl 0 (by decide) (hts (.fieldLink RX0 31 "DomainKeys" "candidateP" "I") (by decide +kernel)) (fun _ h9 => h9) rfl dX0_generatorAt_14 ?_
  refine lv_iconst (v := 1) hx hb dX0_generatorAt_17 (by decide) ?_
  refine lv_isub hx hb dX0_generatorAt_18 ?_
  refine lv_topi (fun v_18 ev_18 => ?_)
  have ev_18 : v_18 = nI (P - 1) := ev_18.trans (pk_sub (b := 1) (by omega))
  subst ev_18
  refine lv_aload_n hx hb dX0_generatorAt_19 rfl (lv_at hl 1 rfl) ?_
  refine va_get (D := (dC, dI)) (ci := 0) (v := .int (nI Q9)) (C := RX0) (T := TX0) (N := 9) hx hb hts (by decide +kernel) hown hK hP 0 rfl rfl 1 (by decide) (hts (.fieldLink RX0 23 "DomainKeys" "candidateQ" "I") (by decide +kernel)) (fun _ h9 => h9) rfl dX0_generatorAt_20 ?_
  refine lv_idiv hx hb dX0_generatorAt_23 (nI_ne0 (by omega) (by omega)) ?_
  refine lv_topi (fun v_23 ev_23 => ?_)
  have ev_23 : v_23 = nI ((P - 1) / Q9) := ev_23.trans (pk_div (by omega) (by omega) (by omega))
  subst ev_23
  refine lv_istore (lv' := [(4, .int (nI ((P - 1) / Q9))), (2, .long (dk_H cs (lN (100 + ix)))), (0, .ref h0), (1, .int (nI ix))]) hx hb dX0_generatorAt_24 hl (by decide) rfl (fun ls hl => ?_)
  refine lv_iconst (v := 1) hx hb dX0_generatorAt_26 (by decide) ?_
  refine lv_istore (lv' := [(5, .int 1), (4, .int (nI ((P - 1) / Q9))), (2, .long (dk_H cs (lN (100 + ix)))), (0, .ref h0), (1, .int (nI ix))]) hx hb dX0_generatorAt_27 hl (by decide) rfl (fun ls hl => ?_)
  refine dk_generatorAt_loop dC dI h0 h1 h2 a1 a2 cp cq cs cn dp dq dg se pu P Q9 ix hP0 hP9 hQ0 hQ9 hix hx hb hml hown hts hP hK (fun pc r ls hpc hgn => ?_) 101 1 ls (by omega) (by omega) (by omega) (fun j q1 q2 => absurd q2 (by omega)) (lv_sub hl [3, 2, 1, 0] rfl)
  rcases hpc with rfl | rfl
  · exact W.iret (v := r) hx hb hr (fun t ht hW => ⟨_, rfl, hgn, ht⟩) (fun q h => nomatch h) dX0_generatorAt_75
  · exact W.iret (v := r) hx hb hr (fun t ht hW => ⟨_, rfl, hgn, ht⟩) (fun q h => nomatch h) dX0_generatorAt_83
end
section
set_option maxHeartbeats 4000000 in
set_option maxRecDepth 100000 in
theorem dk_c_requireDomain (l : Launch) (hl9 : l.stackTraces = false) (dC : Nat → ClassId) (dI : Nat → Nat → Nat) (h0 h1 h2 : Nat) (a1 a2 : ClassId) (cp cq : Int32) (cs : Int64) (cn dp dq dg : Int32) (se pu : Nat → Int32)  (sz : Nat) : vx_Met l yX0_requireDomain wsX0_requireDomain ({ frames := 6, cells := 1, slots := 6, locals := 82 }) (va_Pc [.ref h0] (fun U => U.heap.size = sz ∧ va_P (dC, dI) vwCl [(h0, .inr (0, [.int cp, .int cq, .long cs, .int cn, .int dp, .int dq, .int dg, .ref h1, .ref h2])), (h1, .inl (a1, 8, .inl se)), (h2, .inl (a2, 8, .inl pu))] U.heap ∧ va_K (dC, dI) vwCl [(a1, .int), (a2, .int)] U ∧ va_D (fun _ => True) [(h0, .inr (0, [.int cp, .int cq, .long cs, .int cn, .int dp, .int dq, .int dg, .ref h1, .ref h2])), (h1, .inl (a1, 8, .inl se)), (h2, .inl (a2, 8, .inl pu))] ∧ dk_E (va_A [(h0, .inr (0, [.int cp, .int cq, .long cs, .int cn, .int dp, .int dq, .int dg, .ref h1, .ref h2])), (h1, .inl (a1, 8, .inl se)), (h2, .inl (a2, 8, .inl pu))] sz) U U.heap)) (va_Qv (fun u9 : dk_S => u9 = (cp, cq, cs, cn, dp, dq, dg, se, pu) ∧ ¬ dp = 0) (dk_B dC dI (va_A [(h0, .inr (0, [.int cp, .int cq, .long cs, .int cn, .int dp, .int dq, .int dg, .ref h1, .ref h2])), (h1, .inl (a1, 8, .inl se)), (h2, .inl (a2, 8, .inl pu))] sz) h0 h1 h2 a1 a2) (va_A [(h0, .inr (0, [.int cp, .int cq, .long cs, .int cn, .int dp, .int dq, .int dg, .ref h1, .ref h2])), (h1, .inl (a1, 8, .inl se)), (h2, .inl (a2, 8, .inl pu))] sz)) (vx_X (fun _ : dk_S => True) (fun E9 u9 t9 => (u9 = (cp, cq, cs, cn, dp, dq, dg, se, pu) ∧ E9 = "java/lang/IllegalStateException" ∧ dp = 0) ∧ dk_B dC dI (va_A [(h0, .inr (0, [.int cp, .int cq, .long cs, .int cn, .int dp, .int dq, .int dg, .ref h1, .ref h2])), (h1, .inl (a1, 8, .inl se)), (h2, .inl (a2, 8, .inl pu))] sz) h0 h1 h2 a1 a2 u9 t9) (va_A [(h0, .inr (0, [.int cp, .int cq, .long cs, .int cn, .int dp, .int dq, .int dg, .ref h1, .ref h2])), (h1, .inl (a1, 8, .inl se)), (h2, .inl (a2, 8, .inl pu))] sz)) 1 6 (va_A [(h0, .inr (0, [.int cp, .int cq, .long cs, .int cn, .int dp, .int dq, .int dg, .ref h1, .ref h2])), (h1, .inl (a1, 8, .inl se)), (h2, .inl (a2, 8, .inl pu))] sz) := by
  refine vx_ofW (cc := cX0_requireDomain) (maxL := 1) (ret := none) (by decide) rfl ?_
  intro p e s m args below meth c s₁ B hml hEx hv
  obtain ⟨rfl, hsz, hP, hK, hD0, hE⟩ := hv
  have hx := B.exec
  have hb := B.bytes
  have hr := B.returns
  have hts := atoms_spec (ws := wsX0_requireDomain) B.pre
  have hown : s.vm.findClass RX0 = some m.cls := findClass_of_methodNamed B.named
  have hlocks := B.notSynchronized
  subst hsz
  have hD := hD0.self (sz := s.heap.size)
  generalize hAe : va_A [(h0, .inr (0, [.int cp, .int cq, .long cs, .int cn, .int dp, .int dq, .int dg, .ref h1, .ref h2])), (h1, .inl (a1, 8, .inl se)), (h2, .inl (a2, 8, .inl pu))] s.heap.size = A at hD hE ⊢
  have hA : ∀ q : Nat, s.heap.size ≤ q → A q := fun q h => by rw [← hAe]; exact Or.inr h
  have hS : va_S A s.heap s.heap [] := va_S.rf
  have hl := lv_entry ([.ref h0]) (n := 1) (Nat.le_of_ble_eq_true rfl)
  rw [lg_entry_eq]
  generalize (lg_sl ([.ref h0]) ++ List.replicate (1 - (lg_sl ([.ref h0])).length) Slot.unset).toArray = ls at hl ⊢
  have hl : lv_has ls 1 [(0, .ref h0)] := hl
  refine lv_aload_n hx hb dX0_requireDomain_0 rfl (lv_at hl 0 rfl) ?_
  refine va_get (D := (dC, dI)) (ci := 0) (v := .int dp) (C := RX0) (T := TX0) (N := 9) hx hb hts (by decide +kernel) hown hK hP 0 rfl rfl 4 (by decide) (hts (.fieldLink RX0 63 "DomainKeys" "domainP" "I") (by decide +kernel)) (fun _ h9 => h9) rfl dX0_requireDomain_1 ?_
  refine lv_if_ne (tgt := 17) hx hb dX0_requireDomain_4 (by decide) (fun c_4 => ?_) (fun c_4 => ?_)
  · refine W.widen (k := 1) (n := 6) (Nat.le_of_ble_eq_true rfl) (Nat.le_of_ble_eq_true rfl) ?_
    exact vx_ret (W.vret hx hb hr (fun t ht hW => ⟨⟨(cp, cq, cs, cn, dp, dq, dg, se, pu), rfl, ⟨rfl, c_4⟩, by rw [ht]; exact hP, va_K.moved hW.alike hK, hD⟩, hS.F ht⟩) hS.2.2 dX0_requireDomain_17)
  · obtain ⟨sa_7, hs_7⟩ := hE.2.2.2.2.1 (61, "no domain") (by decide +kernel)
    refine vx_throwS (own := RX0) (cls := "java/lang/IllegalStateException") (text := "no domain") (names := ["java/lang/RuntimeException", "java/lang/Exception"]) (ik := 41) (is := 61) (ic := 45) (rest := []) hx hb hl9 hown (by decide +kernel) (by decide +kernel) (hts (.classLink RX0 41 "java/lang/IllegalStateException") (by decide +kernel)) (hts (.initialized "java/lang/IllegalStateException") (by decide +kernel)) hs_7 (vx_hat (L := vx_atS RX0 45 "java/lang/IllegalStateException" ["java/lang/RuntimeException", "java/lang/Exception"]) (B := [.castable "java/lang/IllegalStateException" "java/lang/IllegalStateException", .declares (Bundle.initS "java/lang/RuntimeException"), .declares (Bundle.initS "java/lang/Exception"), .declares (Bundle.initS "java/lang/Throwable")]) (fun w hw => hts w ((by decide +kernel : ∀ w ∈ (vx_atS RX0 45 "java/lang/IllegalStateException" ["java/lang/RuntimeException", "java/lang/Exception"]).filter goodWord, w ∈ wsX0_requireDomain) w hw)) (by decide +kernel) (vx_c (va_Nw.use rfl (hE.2.2.1 "java/lang/IllegalStateException" (by decide +kernel))) (vx_c (va_Nw.use rfl (hE.2.2.2.1 "java/lang/RuntimeException" (by decide +kernel))) (vx_c (va_Nw.use rfl (hE.2.2.2.1 "java/lang/Exception" (by decide +kernel))) (vx_c (va_Nw.use rfl (hE.2.2.2.1 "java/lang/Throwable" (by decide +kernel))) (vx_n)))))) (by decide +kernel) hE.1 hE.2.1 hS (hl.1.trans hml.symm) dX0_requireDomain_7 dX0_requireDomain_10 dX0_requireDomain_11 dX0_requireDomain_13 dX0_requireDomain_16 (fun x hx => (hEx x hx).elim) (Nat.le_of_ble_eq_true rfl) (Nat.le_of_ble_eq_true rfl) (Nat.le_of_ble_eq_true rfl) (Nat.le_of_ble_eq_true rfl) hlocks (fun t ha hz hk => ?_) hS.2.2 (Nat.le_of_ble_eq_true rfl) (Nat.le_of_ble_eq_true rfl)
    exact ⟨(cp, cq, cs, cn, dp, dq, dg, se, pu), trivial, ⟨⟨rfl, rfl, c_4⟩, hP.kept (fun k q hq => hk q.1 (hP k q hq).lt), va_K.moved ha hK, hD⟩, dk_F hS hz hk⟩

set_option maxHeartbeats 4000000 in
set_option maxRecDepth 100000 in
theorem dk_c_requireKey (l : Launch) (hl9 : l.stackTraces = false) (dC : Nat → ClassId) (dI : Nat → Nat → Nat) (h0 h1 h2 : Nat) (a1 a2 : ClassId) (cp cq : Int32) (cs : Int64) (cn dp dq dg : Int32) (se pu : Nat → Int32) (x : Int32) (sz : Nat) : vx_Met l yX0_requireKey wsX0_requireKey ({ frames := 6, cells := 1, slots := 6, locals := 82 }) (va_Pc [.ref h0, .int x] (fun U => U.heap.size = sz ∧ va_P (dC, dI) vwCl [(h0, .inr (0, [.int cp, .int cq, .long cs, .int cn, .int dp, .int dq, .int dg, .ref h1, .ref h2])), (h1, .inl (a1, 8, .inl se)), (h2, .inl (a2, 8, .inl pu))] U.heap ∧ va_K (dC, dI) vwCl [(a1, .int), (a2, .int)] U ∧ va_D (fun _ => True) [(h0, .inr (0, [.int cp, .int cq, .long cs, .int cn, .int dp, .int dq, .int dg, .ref h1, .ref h2])), (h1, .inl (a1, 8, .inl se)), (h2, .inl (a2, 8, .inl pu))] ∧ dk_E (va_A [(h0, .inr (0, [.int cp, .int cq, .long cs, .int cn, .int dp, .int dq, .int dg, .ref h1, .ref h2])), (h1, .inl (a1, 8, .inl se)), (h2, .inl (a2, 8, .inl pu))] sz) U U.heap)) (va_Qv (fun u9 : dk_S => u9 = (cp, cq, cs, cn, dp, dq, dg, se, pu) ∧ dk_hk se x) (dk_B dC dI (va_A [(h0, .inr (0, [.int cp, .int cq, .long cs, .int cn, .int dp, .int dq, .int dg, .ref h1, .ref h2])), (h1, .inl (a1, 8, .inl se)), (h2, .inl (a2, 8, .inl pu))] sz) h0 h1 h2 a1 a2) (va_A [(h0, .inr (0, [.int cp, .int cq, .long cs, .int cn, .int dp, .int dq, .int dg, .ref h1, .ref h2])), (h1, .inl (a1, 8, .inl se)), (h2, .inl (a2, 8, .inl pu))] sz)) (vx_X (fun _ : dk_S => True) (fun E9 u9 t9 => (u9 = (cp, cq, cs, cn, dp, dq, dg, se, pu) ∧ E9 = "java/util/NoSuchElementException" ∧ ¬ dk_hk se x) ∧ dk_B dC dI (va_A [(h0, .inr (0, [.int cp, .int cq, .long cs, .int cn, .int dp, .int dq, .int dg, .ref h1, .ref h2])), (h1, .inl (a1, 8, .inl se)), (h2, .inl (a2, 8, .inl pu))] sz) h0 h1 h2 a1 a2 u9 t9) (va_A [(h0, .inr (0, [.int cp, .int cq, .long cs, .int cn, .int dp, .int dq, .int dg, .ref h1, .ref h2])), (h1, .inl (a1, 8, .inl se)), (h2, .inl (a2, 8, .inl pu))] sz)) 1 6 (va_A [(h0, .inr (0, [.int cp, .int cq, .long cs, .int cn, .int dp, .int dq, .int dg, .ref h1, .ref h2])), (h1, .inl (a1, 8, .inl se)), (h2, .inl (a2, 8, .inl pu))] sz) := by
  refine vx_ofW (cc := cX0_requireKey) (maxL := 2) (ret := none) (by decide) rfl ?_
  intro p e s m args below meth c s₁ B hml hEx hv
  obtain ⟨rfl, hsz, hP, hK, hD0, hE⟩ := hv
  have hx := B.exec
  have hb := B.bytes
  have hr := B.returns
  have hts := atoms_spec (ws := wsX0_requireKey) B.pre
  have hown : s.vm.findClass RX0 = some m.cls := findClass_of_methodNamed B.named
  have hlocks := B.notSynchronized
  subst hsz
  have hD := hD0.self (sz := s.heap.size)
  generalize hAe : va_A [(h0, .inr (0, [.int cp, .int cq, .long cs, .int cn, .int dp, .int dq, .int dg, .ref h1, .ref h2])), (h1, .inl (a1, 8, .inl se)), (h2, .inl (a2, 8, .inl pu))] s.heap.size = A at hD hE ⊢
  have hA : ∀ q : Nat, s.heap.size ≤ q → A q := fun q h => by rw [← hAe]; exact Or.inr h
  have hS : va_S A s.heap s.heap [] := va_S.rf
  have hl := lv_entry ([.ref h0, .int x]) (n := 2) (Nat.le_of_ble_eq_true rfl)
  rw [lg_entry_eq]
  generalize (lg_sl ([.ref h0, .int x]) ++ List.replicate (2 - (lg_sl ([.ref h0, .int x])).length) Slot.unset).toArray = ls at hl ⊢
  have hl : lv_has ls 2 [(0, .ref h0), (1, .int x)] := hl
  refine lv_iload_n hx hb dX0_requireKey_0 rfl (lv_at hl 1 rfl) ?_
  refine vp_callSi (W.runS (As := [.int x]) (rest := []) ⟨hx, hb, hml, hown, hts⟩ (dk_c_isSlot l x) (va_cwS 1 hts gX0_requireKey_X0_isSlot rfl rfl rfl (by decide +kernel) ⟨Nat.le_of_ble_eq_true rfl, Nat.le_of_ble_eq_true rfl⟩) ⟨fun _ _ _ _ q9 => q9, fun U hU hW => ⟨rfl, trivial⟩⟩ rfl rfl hl.1 rfl (lv_room (Nat.le_of_ble_eq_true rfl)) dX0_requireKey_1 ⟨Nat.le_of_ble_eq_true rfl, Nat.le_of_ble_eq_true rfl⟩) (fun r_1 hr_1 => ?_)
  refine lv_if_eq (tgt := 16) hx hb dX0_requireKey_4 (by decide) (fun c_4 => ?_) (fun c_4 => ?_)
  · have hno : ¬ ∃ j : Nat, j < 8 ∧ x = nI j := by
      rcases hr_1 with ⟨q, -⟩ | ⟨-, q⟩
      · rw [q] at c_4; exact absurd c_4 (by decide)
      · exact q
    obtain ⟨sa_16, hs_16⟩ := hE.2.2.2.2.1 (129, "no key") (by decide +kernel)
    refine dk_throwX (own := RX0) (cls := "java/util/NoSuchElementException") (text := "no key") (Y9 := "java/lang/RuntimeException") (r9 := ["java/lang/Exception"]) (ik := 127) (is := 129) (ic := 131) (rest := []) hx hb hl9 hown (by decide +kernel) (by decide +kernel) (hts (.classLink RX0 127 "java/util/NoSuchElementException") (by decide +kernel)) (hts (.initialized "java/util/NoSuchElementException") (by decide +kernel)) hs_16 (vx_hat (L := dk_atX RX0 131 "java/util/NoSuchElementException" ["java/lang/RuntimeException", "java/lang/Exception"]) (B := [.castable "java/util/NoSuchElementException" "java/util/NoSuchElementException", .declares (Bundle.initS "java/lang/RuntimeException"), .declares (Bundle.initS "java/lang/Exception"), .declares (Bundle.initS "java/lang/Throwable")]) (fun w hw => hts w ((by decide +kernel : ∀ w ∈ (dk_atX RX0 131 "java/util/NoSuchElementException" ["java/lang/RuntimeException", "java/lang/Exception"]).filter goodWord, w ∈ wsX0_requireKey) w hw)) (by decide +kernel) (vx_c (va_Nw.use rfl (hE.2.2.1 "java/util/NoSuchElementException" (by decide +kernel))) (vx_c (va_Nw.use rfl (hE.2.2.2.1 "java/lang/RuntimeException" (by decide +kernel))) (vx_c (va_Nw.use rfl (hE.2.2.2.1 "java/lang/Exception" (by decide +kernel))) (vx_c (va_Nw.use rfl (hE.2.2.2.1 "java/lang/Throwable" (by decide +kernel))) (vx_n)))))) (by decide +kernel) hE.1 hE.2.1 hS (hl.1.trans hml.symm) dX0_requireKey_16 dX0_requireKey_19 dX0_requireKey_20 dX0_requireKey_22 dX0_requireKey_25 (fun x hx => (hEx x hx).elim) (Nat.le_of_ble_eq_true rfl) (Nat.le_of_ble_eq_true rfl) (Nat.le_of_ble_eq_true rfl) (Nat.le_of_ble_eq_true rfl) hlocks (fun t ha hz hk => ?_) hS.2.2 (Nat.le_of_ble_eq_true rfl) (Nat.le_of_ble_eq_true rfl)
    exact ⟨(cp, cq, cs, cn, dp, dq, dg, se, pu), trivial, ⟨⟨rfl, rfl, fun q => hno (dk_sl_of.mp q.1)⟩, hP.kept (fun k q hq => hk q.1 (hP k q hq).lt), va_K.moved ha hK, hD⟩, dk_F hS hz hk⟩
  · obtain ⟨j, hj, rfl⟩ : ∃ j : Nat, j < 8 ∧ x = nI j := by
      rcases hr_1 with ⟨-, q⟩ | ⟨q, -⟩
      · exact q
      · exact absurd q c_4
    refine lv_aload_n hx hb dX0_requireKey_7 rfl (lv_at hl 0 rfl) ?_
    refine va_get (D := (dC, dI)) (ci := 0) (v := .ref h1) (C := RX0) (T := TX0) (N := 9) hx hb hts (by decide +kernel) hown hK hP 0 rfl rfl 7 (by decide) (hts (.fieldLink RX0 9 "DomainKeys" "secrets" "[I") (by decide +kernel)) (fun _ h9 => h9) rfl dX0_requireKey_8 ?_
    refine lv_iload_n hx hb dX0_requireKey_11 rfl (lv_at hl 1 rfl) ?_
    refine va_iald hx hb hK hP 1 0 rfl rfl (vp_in_nI hj (by decide)) dX0_requireKey_12 ?_
    refine lv_topi (fun v_12 ev_12 => ?_)
    have ev_12 : v_12 = se j := ev_12.trans (congrArg se (nI_clamp (Nat.lt_trans hj (by decide))))
    subst ev_12
    refine lv_if_ne (tgt := 26) hx hb dX0_requireKey_13 (by decide) (fun c_13 => ?_) (fun c_13 => ?_)
    · refine W.widen (k := 1) (n := 6) (Nat.le_of_ble_eq_true rfl) (Nat.le_of_ble_eq_true rfl) ?_
      exact vx_ret (W.vret hx hb hr (fun t ht hW => ⟨⟨(cp, cq, cs, cn, dp, dq, dg, se, pu), rfl, ⟨rfl, (dk_hk_nI hj).mpr c_13⟩, by rw [ht]; exact hP, va_K.moved hW.alike hK, hD⟩, hS.F ht⟩) hS.2.2 dX0_requireKey_26)
    · obtain ⟨sa_16, hs_16⟩ := hE.2.2.2.2.1 (129, "no key") (by decide +kernel)
      refine dk_throwX (own := RX0) (cls := "java/util/NoSuchElementException") (text := "no key") (Y9 := "java/lang/RuntimeException") (r9 := ["java/lang/Exception"]) (ik := 127) (is := 129) (ic := 131) (rest := []) hx hb hl9 hown (by decide +kernel) (by decide +kernel) (hts (.classLink RX0 127 "java/util/NoSuchElementException") (by decide +kernel)) (hts (.initialized "java/util/NoSuchElementException") (by decide +kernel)) hs_16 (vx_hat (L := dk_atX RX0 131 "java/util/NoSuchElementException" ["java/lang/RuntimeException", "java/lang/Exception"]) (B := [.castable "java/util/NoSuchElementException" "java/util/NoSuchElementException", .declares (Bundle.initS "java/lang/RuntimeException"), .declares (Bundle.initS "java/lang/Exception"), .declares (Bundle.initS "java/lang/Throwable")]) (fun w hw => hts w ((by decide +kernel : ∀ w ∈ (dk_atX RX0 131 "java/util/NoSuchElementException" ["java/lang/RuntimeException", "java/lang/Exception"]).filter goodWord, w ∈ wsX0_requireKey) w hw)) (by decide +kernel) (vx_c (va_Nw.use rfl (hE.2.2.1 "java/util/NoSuchElementException" (by decide +kernel))) (vx_c (va_Nw.use rfl (hE.2.2.2.1 "java/lang/RuntimeException" (by decide +kernel))) (vx_c (va_Nw.use rfl (hE.2.2.2.1 "java/lang/Exception" (by decide +kernel))) (vx_c (va_Nw.use rfl (hE.2.2.2.1 "java/lang/Throwable" (by decide +kernel))) (vx_n)))))) (by decide +kernel) hE.1 hE.2.1 hS (hl.1.trans hml.symm) dX0_requireKey_16 dX0_requireKey_19 dX0_requireKey_20 dX0_requireKey_22 dX0_requireKey_25 (fun x hx => (hEx x hx).elim) (Nat.le_of_ble_eq_true rfl) (Nat.le_of_ble_eq_true rfl) (Nat.le_of_ble_eq_true rfl) (Nat.le_of_ble_eq_true rfl) hlocks (fun t ha hz hk => ?_) hS.2.2 (Nat.le_of_ble_eq_true rfl) (Nat.le_of_ble_eq_true rfl)
      exact ⟨(cp, cq, cs, cn, dp, dq, dg, se, pu), trivial, ⟨⟨rfl, rfl, fun q => (dk_hk_nI hj).mp q c_13⟩, hP.kept (fun k q hq => hk q.1 (hP k q hq).lt), va_K.moved ha hK, hD⟩, dk_F hS hz hk⟩

set_option maxHeartbeats 4000000 in
set_option maxRecDepth 100000 in
theorem dk_c_clearSlot (l : Launch) (dC : Nat → ClassId) (dI : Nat → Nat → Nat) (h0 h1 h2 : Nat) (a1 a2 : ClassId) (cp cq : Int32) (cs : Int64) (cn dp dq dg : Int32) (se pu : Nat → Int32) (j : Nat) (hj : j < 8) (sz : Nat) : Met l yX0_clearSlot wsX0_clearSlot ({ frames := 0, cells := 0, slots := 0, locals := 0 }) (va_Pc [.ref h0, .int (nI j)] (fun U => U.heap.size = sz ∧ va_P (dC, dI) vwCl [(h0, .inr (0, [.int cp, .int cq, .long cs, .int cn, .int dp, .int dq, .int dg, .ref h1, .ref h2])), (h1, .inl (a1, 8, .inl se)), (h2, .inl (a2, 8, .inl pu))] U.heap ∧ va_K (dC, dI) vwCl [(a1, .int), (a2, .int)] U ∧ va_D (fun _ => True) [(h0, .inr (0, [.int cp, .int cq, .long cs, .int cn, .int dp, .int dq, .int dg, .ref h1, .ref h2])), (h1, .inl (a1, 8, .inl se)), (h2, .inl (a2, 8, .inl pu))])) (va_Qv (fun u9 : dk_S => u9 = (cp, cq, cs, cn, dp, dq, dg, upd se j 0, upd pu j 0)) (dk_B dC dI (va_A [(h0, .inr (0, [.int cp, .int cq, .long cs, .int cn, .int dp, .int dq, .int dg, .ref h1, .ref h2])), (h1, .inl (a1, 8, .inl se)), (h2, .inl (a2, 8, .inl pu))] sz) h0 h1 h2 a1 a2) (va_A [(h0, .inr (0, [.int cp, .int cq, .long cs, .int cn, .int dp, .int dq, .int dg, .ref h1, .ref h2])), (h1, .inl (a1, 8, .inl se)), (h2, .inl (a2, 8, .inl pu))] sz)) 0 0 (va_A [(h0, .inr (0, [.int cp, .int cq, .long cs, .int cn, .int dp, .int dq, .int dg, .ref h1, .ref h2])), (h1, .inl (a1, 8, .inl se)), (h2, .inl (a2, 8, .inl pu))] sz) := by
  refine Met.ofW (cc := cX0_clearSlot) (maxL := 2) (ret := none) (by decide) rfl ?_
  intro p e s m args below meth c s₁ B hml hv
  obtain ⟨rfl, hsz, hP, hK, hD0⟩ := hv
  have hx := B.exec
  have hb := B.bytes
  have hr := B.returns
  have hts := atoms_spec (ws := wsX0_clearSlot) B.pre
  have hown : s.vm.findClass RX0 = some m.cls := findClass_of_methodNamed B.named
  have hlocks := B.notSynchronized
  subst hsz
  have hD := hD0.self (sz := s.heap.size)
  generalize hAe : va_A [(h0, .inr (0, [.int cp, .int cq, .long cs, .int cn, .int dp, .int dq, .int dg, .ref h1, .ref h2])), (h1, .inl (a1, 8, .inl se)), (h2, .inl (a2, 8, .inl pu))] s.heap.size = A at hD ⊢
  have hA : ∀ q : Nat, s.heap.size ≤ q → A q := fun q h => by rw [← hAe]; exact Or.inr h
  have hS : va_S A s.heap s.heap [] := va_S.rf
  have hl := lv_entry ([.ref h0, .int (nI j)]) (n := 2) (Nat.le_of_ble_eq_true rfl)
  rw [lg_entry_eq]
  generalize (lg_sl ([.ref h0, .int (nI j)]) ++ List.replicate (2 - (lg_sl ([.ref h0, .int (nI j)])).length) Slot.unset).toArray = ls at hl ⊢
  have hl : lv_has ls 2 [(0, .ref h0), (1, .int (nI j))] := hl
  refine lv_aload_n hx hb dX0_clearSlot_0 rfl (lv_at hl 0 rfl) ?_
  refine va_get (D := (dC, dI)) (ci := 0) (v := .ref h1) (C := RX0) (T := TX0) (N := 9) hx hb hts (by decide +kernel) hown hK hP 0 rfl rfl 7 (by decide) (hts (.fieldLink RX0 9 "DomainKeys" "secrets" "[I") (by decide +kernel)) (fun _ h9 => h9) rfl dX0_clearSlot_1 ?_
  refine lv_iload_n hx hb dX0_clearSlot_4 rfl (lv_at hl 1 rfl) ?_
  refine lv_iconst (v := 0) hx hb dX0_clearSlot_5 (by decide) ?_
  refine va_iast hx hb hK hP hD hS 1 0 rfl rfl (vp_in_nI hj (by decide)) dX0_clearSlot_6 (fun H locs hP hD hS => ?_)
  rw [nI_clamp (Nat.lt_trans hj (by decide))] at hP hD
  have hP : va_P (dC, dI) vwCl [(h0, .inr (0, [.int cp, .int cq, .long cs, .int cn, .int dp, .int dq, .int dg, .ref h1, .ref h2])), (h1, .inl (a1, 8, .inl (upd se j 0))), (h2, .inl (a2, 8, .inl pu))] H := hP
  have hD : va_D A [(h0, .inr (0, [.int cp, .int cq, .long cs, .int cn, .int dp, .int dq, .int dg, .ref h1, .ref h2])), (h1, .inl (a1, 8, .inl (upd se j 0))), (h2, .inl (a2, 8, .inl pu))] := hD
  refine lv_aload_n hx hb dX0_clearSlot_7 rfl (lv_at hl 0 rfl) ?_
  refine va_get (D := (dC, dI)) (ci := 0) (v := .ref h2) (C := RX0) (T := TX0) (N := 9) hx hb hts (by decide +kernel) hown hK hP 0 rfl rfl 8 (by decide) (hts (.fieldLink RX0 13 "DomainKeys" "publicNumbers" "[I") (by decide +kernel)) (fun _ h9 => h9) rfl dX0_clearSlot_8 ?_
  refine lv_iload_n hx hb dX0_clearSlot_11 rfl (lv_at hl 1 rfl) ?_
  refine lv_iconst (v := 0) hx hb dX0_clearSlot_12 (by decide) ?_
  refine va_iast hx hb hK hP hD hS 2 1 rfl rfl (vp_in_nI hj (by decide)) dX0_clearSlot_13 (fun H locs hP hD hS => ?_)
  rw [nI_clamp (Nat.lt_trans hj (by decide))] at hP hD
  have hP : va_P (dC, dI) vwCl [(h0, .inr (0, [.int cp, .int cq, .long cs, .int cn, .int dp, .int dq, .int dg, .ref h1, .ref h2])), (h1, .inl (a1, 8, .inl (upd se j 0))), (h2, .inl (a2, 8, .inl (upd pu j 0)))] H := hP
  have hD : va_D A [(h0, .inr (0, [.int cp, .int cq, .long cs, .int cn, .int dp, .int dq, .int dg, .ref h1, .ref h2])), (h1, .inl (a1, 8, .inl (upd se j 0))), (h2, .inl (a2, 8, .inl (upd pu j 0)))] := hD
  exact W.vret hx hb hr (fun t ht hW => ⟨⟨(cp, cq, cs, cn, dp, dq, dg, (upd se j 0), (upd pu j 0)), rfl, rfl, by rw [ht]; exact hP, va_K.moved hW.alike hK, hD⟩, hS.F ht⟩) hS.2.2 dX0_clearSlot_14

set_option maxHeartbeats 4000000 in
set_option maxRecDepth 100000 in
theorem dk_c_generate (l : Launch) (dC : Nat → ClassId) (dI : Nat → Nat → Nat) (h0 h1 h2 : Nat) (a1 a2 : ClassId) (cp cq : Int32) (cs : Int64) (cn dp dq dg : Int32) (se pu : Nat → Int32) (sd : Int64) (sz : Nat) : Met l yX0_generate wsX0_generate ({ frames := 3, cells := 0, slots := 0, locals := 74 }) (va_Pc [.ref h0, .long sd] (fun U => U.heap.size = sz ∧ va_P (dC, dI) vwCl [(h0, .inr (0, [.int cp, .int cq, .long cs, .int cn, .int dp, .int dq, .int dg, .ref h1, .ref h2])), (h1, .inl (a1, 8, .inl se)), (h2, .inl (a2, 8, .inl pu))] U.heap ∧ va_K (dC, dI) vwCl [(a1, .int), (a2, .int)] U ∧ va_D (fun _ => True) [(h0, .inr (0, [.int cp, .int cq, .long cs, .int cn, .int dp, .int dq, .int dg, .ref h1, .ref h2])), (h1, .inl (a1, 8, .inl se)), (h2, .inl (a2, 8, .inl pu))])) (va_Qi (fun (r9 : Int32) (u9 : dk_S) => dk_Mk sd r9 ∧ ((r9 < 0 ∧ u9 = (cp, cq, cs, cn, dp, dq, dg, se, pu)) ∨ ∃ n9 : Nat, n9 < 64 ∧ dk_ok sd n9 ∧ dk_pr (dk_q sd) ∧ r9 = nI n9 ∧ u9 = (nI (dk_try sd n9), nI (dk_q sd), sd, nI n9, dp, dq, dg, se, pu))) (dk_B dC dI (va_A [(h0, .inr (0, [.int cp, .int cq, .long cs, .int cn, .int dp, .int dq, .int dg, .ref h1, .ref h2])), (h1, .inl (a1, 8, .inl se)), (h2, .inl (a2, 8, .inl pu))] sz) h0 h1 h2 a1 a2) (va_A [(h0, .inr (0, [.int cp, .int cq, .long cs, .int cn, .int dp, .int dq, .int dg, .ref h1, .ref h2])), (h1, .inl (a1, 8, .inl se)), (h2, .inl (a2, 8, .inl pu))] sz)) 0 0 (va_A [(h0, .inr (0, [.int cp, .int cq, .long cs, .int cn, .int dp, .int dq, .int dg, .ref h1, .ref h2])), (h1, .inl (a1, 8, .inl se)), (h2, .inl (a2, 8, .inl pu))] sz) := by
  refine Met.ofW (cc := cX0_generate) (maxL := 4) (ret := (some .int)) (by decide) rfl ?_
  intro p e s m args below meth c s₁ B hml hv
  obtain ⟨rfl, hsz, hP, hK, hD0⟩ := hv
  have hx := B.exec
  have hb := B.bytes
  have hr := B.returns
  have hts := atoms_spec (ws := wsX0_generate) B.pre
  have hown : s.vm.findClass RX0 = some m.cls := findClass_of_methodNamed B.named
  have hlocks := B.notSynchronized
  subst hsz
  have hD := hD0.self (sz := s.heap.size)
  generalize hAe : va_A [(h0, .inr (0, [.int cp, .int cq, .long cs, .int cn, .int dp, .int dq, .int dg, .ref h1, .ref h2])), (h1, .inl (a1, 8, .inl se)), (h2, .inl (a2, 8, .inl pu))] s.heap.size = A at hD ⊢
  have hA : ∀ q : Nat, s.heap.size ≤ q → A q := fun q h => by rw [← hAe]; exact Or.inr h
  have hS : va_S A s.heap s.heap [] := va_S.rf
  have hl := lv_entry ([.ref h0, .long sd]) (n := 4) (Nat.le_of_ble_eq_true rfl)
  rw [lg_entry_eq]
  generalize (lg_sl ([.ref h0, .long sd]) ++ List.replicate (4 - (lg_sl ([.ref h0, .long sd])).length) Slot.unset).toArray = ls at hl ⊢
  have hl : lv_has ls 4 [(0, .ref h0), (1, .long sd)] := hl
  refine lv_lload_n hx hb dX0_generate_0 rfl (lv_at hl 1 rfl) ?_
  refine vp_callSi (W.runS (As := [.long sd]) (rest := []) ⟨hx, hb, hml, hown, hts⟩ (dk_c_counterFrom l sd) (va_cwS 1 hts gX0_generate_X0_counterFrom rfl rfl rfl (by decide +kernel) ⟨Nat.le_of_ble_eq_true rfl, Nat.le_of_ble_eq_true rfl⟩) ⟨fun _ _ _ _ q9 => q9, fun U hU hW => ⟨rfl, trivial⟩⟩ rfl rfl hl.1 rfl (lv_room (Nat.le_of_ble_eq_true rfl)) dX0_generate_1 ⟨Nat.le_of_ble_eq_true rfl, Nat.le_of_ble_eq_true rfl⟩) (fun r_1 hr_1 => ?_)
  refine lv_istore_n (lv' := [(3, .int r_1), (0, .ref h0), (1, .long sd)]) hx hb dX0_generate_4 rfl hl (by decide) rfl (fun ls hl => ?_)
  refine lv_iload_n hx hb dX0_generate_5 rfl (lv_at hl 0 rfl) ?_
  refine lv_if_lt (tgt := 40) hx hb dX0_generate_6 (by decide) (fun c_6 => ?_) (fun c_6 => ?_)
  · refine lv_iload_n hx hb dX0_generate_40 rfl (lv_at hl 0 rfl) ?_
    exact W.iret (v := r_1) hx hb hr (fun t ht hW => ⟨⟨r_1, (cp, cq, cs, cn, dp, dq, dg, se, pu), rfl, ⟨hr_1, Or.inl ⟨c_6, rfl⟩⟩, by rw [ht]; exact hP, va_K.moved hW.alike hK, hD⟩, hS.F ht⟩) hS.2.2 dX0_generate_41
  · obtain ⟨n9, hn9, hok, hfi, hpq, rfl⟩ : ∃ n9 : Nat, n9 < 64 ∧ dk_ok sd n9 ∧ (∀ j, j < n9 → ¬ dk_ok sd j) ∧ dk_pr (dk_q sd) ∧ r_1 = nI n9 := by
      rcases hr_1 with ⟨-, q⟩ | ⟨q1, n9, q2, q3, q4, q⟩ | ⟨-, -, q⟩
      · exact absurd (by rw [q]; decide) c_6
      · exact ⟨n9, q2, q3, q4, q1, q⟩
      · exact absurd (by rw [q]; decide) c_6
    refine lv_aload_n hx hb dX0_generate_9 rfl (lv_at hl 1 rfl) ?_
    refine lv_lload_n hx hb dX0_generate_10 rfl (lv_at hl 2 rfl) ?_
    refine vp_callSi (W.runS (As := [.long sd]) (rest := [.ref h0]) ⟨hx, hb, hml, hown, hts⟩ (dk_c_orderFrom l sd) (va_cwS 1 hts gX0_generate_X0_orderFrom rfl rfl rfl (by decide +kernel) ⟨Nat.le_of_ble_eq_true rfl, Nat.le_of_ble_eq_true rfl⟩) ⟨fun _ _ _ _ q9 => q9, fun U hU hW => ⟨rfl, trivial⟩⟩ rfl rfl hl.1 rfl (lv_room (Nat.le_of_ble_eq_true rfl)) dX0_generate_11 ⟨Nat.le_of_ble_eq_true rfl, Nat.le_of_ble_eq_true rfl⟩) (fun r_11 hr_11 => ?_)
    subst hr_11
    refine va_put (D := (dC, dI)) (ci := 0) (v := .int (nI (dk_q sd))) (ty := .int) (C := RX0) (T := TX0) (N := 9) hx hb hts (by decide +kernel) tyX0 tyX0_ok nmX0 hown hK hP hD hS 0 rfl rfl 1 (by decide) (hts (.fieldLink RX0 23 "DomainKeys" "candidateQ" "I") (by decide +kernel)) (fun _ h9 => h9) rfl (by decide +kernel) rfl rfl (Nat.le_of_ble_eq_true rfl) dX0_generate_14 (fun H locs hP hD hS => ?_)
    have hP : va_P (dC, dI) vwCl [(h0, .inr (0, [.int cp, .int (nI (dk_q sd)), .long cs, .int cn, .int dp, .int dq, .int dg, .ref h1, .ref h2])), (h1, .inl (a1, 8, .inl se)), (h2, .inl (a2, 8, .inl pu))] H := hP
    have hD : va_D A [(h0, .inr (0, [.int cp, .int (nI (dk_q sd)), .long cs, .int cn, .int dp, .int dq, .int dg, .ref h1, .ref h2])), (h1, .inl (a1, 8, .inl se)), (h2, .inl (a2, 8, .inl pu))] := hD
    refine lv_aload_n hx hb dX0_generate_17 rfl (lv_at hl 1 rfl) ?_
    refine lv_lload_n hx hb dX0_generate_18 rfl (lv_at hl 2 rfl) ?_
    refine lv_aload_n hx hb dX0_generate_19 rfl (lv_at hl 1 rfl) ?_
    refine va_get (D := (dC, dI)) (ci := 0) (v := .int (nI (dk_q sd))) (C := RX0) (T := TX0) (N := 9) hx hb hts (by decide +kernel) hown hK hP 0 rfl rfl 1 (by decide) (hts (.fieldLink RX0 23 "DomainKeys" "candidateQ" "I") (by decide +kernel)) (fun _ h9 => h9) rfl dX0_generate_20 ?_
    refine lv_iload_n hx hb dX0_generate_23 rfl (lv_at hl 0 rfl) ?_
    refine vp_callSi (W.runS (As := [.long sd, .int (nI (dk_q sd)), .int (nI n9)]) (rest := [.ref h0]) ⟨hx, hb, hml, hown, hts⟩ (dk_c_fieldTry l sd n9 hn9) (va_cwS 3 hts gX0_generate_X0_fieldTry rfl rfl rfl (by decide +kernel) ⟨Nat.le_of_ble_eq_true rfl, Nat.le_of_ble_eq_true rfl⟩) ⟨fun _ _ _ _ q9 => q9, fun U hU hW => ⟨rfl, trivial⟩⟩ rfl rfl hl.1 rfl (lv_room (Nat.le_of_ble_eq_true rfl)) dX0_generate_24 ⟨Nat.le_of_ble_eq_true rfl, Nat.le_of_ble_eq_true rfl⟩) (fun r_24 hr_24 => ?_)
    subst hr_24
    refine va_put (D := (dC, dI)) (ci := 0) (v := .int (nI (dk_try sd n9))) (ty := .int) (C := RX0) (T := TX0) (N := 9) hx hb hts (by decide +kernel) tyX0 tyX0_ok nmX0 hown hK hP hD hS 0 rfl rfl 0 (by decide) (hts (.fieldLink RX0 31 "DomainKeys" "candidateP" "I") (by decide +kernel)) (fun _ h9 => h9) rfl (by decide +kernel) rfl rfl (Nat.le_of_ble_eq_true rfl) dX0_generate_27 (fun H locs hP hD hS => ?_)
    have hP : va_P (dC, dI) vwCl [(h0, .inr (0, [.int (nI (dk_try sd n9)), .int (nI (dk_q sd)), .long cs, .int cn, .int dp, .int dq, .int dg, .ref h1, .ref h2])), (h1, .inl (a1, 8, .inl se)), (h2, .inl (a2, 8, .inl pu))] H := hP
    have hD : va_D A [(h0, .inr (0, [.int (nI (dk_try sd n9)), .int (nI (dk_q sd)), .long cs, .int cn, .int dp, .int dq, .int dg, .ref h1, .ref h2])), (h1, .inl (a1, 8, .inl se)), (h2, .inl (a2, 8, .inl pu))] := hD
    refine lv_aload_n hx hb dX0_generate_30 rfl (lv_at hl 1 rfl) ?_
    refine lv_lload_n hx hb dX0_generate_31 rfl (lv_at hl 2 rfl) ?_
    refine va_put (D := (dC, dI)) (ci := 0) (v := .long sd) (ty := .long) (C := RX0) (T := TX0) (N := 9) hx hb hts (by decide +kernel) tyX0 tyX0_ok nmX0 hown hK hP hD hS 0 rfl rfl 2 (by decide) (hts (.fieldLink RX0 34 "DomainKeys" "candidateSeed" "J") (by decide +kernel)) (fun _ h9 => h9) rfl (by decide +kernel) rfl rfl (Nat.le_of_ble_eq_true rfl) dX0_generate_32 (fun H locs hP hD hS => ?_)
    have hP : va_P (dC, dI) vwCl [(h0, .inr (0, [.int (nI (dk_try sd n9)), .int (nI (dk_q sd)), .long sd, .int cn, .int dp, .int dq, .int dg, .ref h1, .ref h2])), (h1, .inl (a1, 8, .inl se)), (h2, .inl (a2, 8, .inl pu))] H := hP
    have hD : va_D A [(h0, .inr (0, [.int (nI (dk_try sd n9)), .int (nI (dk_q sd)), .long sd, .int cn, .int dp, .int dq, .int dg, .ref h1, .ref h2])), (h1, .inl (a1, 8, .inl se)), (h2, .inl (a2, 8, .inl pu))] := hD
    refine lv_aload_n hx hb dX0_generate_35 rfl (lv_at hl 1 rfl) ?_
    refine lv_iload_n hx hb dX0_generate_36 rfl (lv_at hl 0 rfl) ?_
    refine va_put (D := (dC, dI)) (ci := 0) (v := .int (nI n9)) (ty := .int) (C := RX0) (T := TX0) (N := 9) hx hb hts (by decide +kernel) tyX0 tyX0_ok nmX0 hown hK hP hD hS 0 rfl rfl 3 (by decide) (hts (.fieldLink RX0 38 "DomainKeys" "candidateCounter" "I") (by decide +kernel)) (fun _ h9 => h9) rfl (by decide +kernel) rfl rfl (Nat.le_of_ble_eq_true rfl) dX0_generate_37 (fun H locs hP hD hS => ?_)
    have hP : va_P (dC, dI) vwCl [(h0, .inr (0, [.int (nI (dk_try sd n9)), .int (nI (dk_q sd)), .long sd, .int (nI n9), .int dp, .int dq, .int dg, .ref h1, .ref h2])), (h1, .inl (a1, 8, .inl se)), (h2, .inl (a2, 8, .inl pu))] H := hP
    have hD : va_D A [(h0, .inr (0, [.int (nI (dk_try sd n9)), .int (nI (dk_q sd)), .long sd, .int (nI n9), .int dp, .int dq, .int dg, .ref h1, .ref h2])), (h1, .inl (a1, 8, .inl se)), (h2, .inl (a2, 8, .inl pu))] := hD
    refine lv_iload_n hx hb dX0_generate_40 rfl (lv_at hl 0 rfl) ?_
    exact W.iret (v := (nI n9)) hx hb hr (fun t ht hW => ⟨⟨nI n9, (nI (dk_try sd n9), nI (dk_q sd), sd, nI n9, dp, dq, dg, se, pu), rfl, ⟨hr_1, Or.inr ⟨n9, hn9, hok, hpq, rfl, rfl⟩⟩, by rw [ht]; exact hP, va_K.moved hW.alike hK, hD⟩, hS.F ht⟩) hS.2.2 dX0_generate_41

set_option maxHeartbeats 4000000 in
set_option maxRecDepth 100000 in
theorem dk_c_generator (l : Launch) (hl9 : l.stackTraces = false) (dC : Nat → ClassId) (dI : Nat → Nat → Nat) (h0 h1 h2 : Nat) (a1 a2 : ClassId) (cp cq : Int32) (cs : Int64) (cn dp dq dg : Int32) (se pu : Nat → Int32) (x : Int32) (hI : dk_IC cp cq cs cn) (sz : Nat) : vx_Met l yX0_generator wsX0_generator ({ frames := 6, cells := 1, slots := 6, locals := 82 }) (va_Pc [.ref h0, .int x] (fun U => U.heap.size = sz ∧ va_P (dC, dI) vwCl [(h0, .inr (0, [.int cp, .int cq, .long cs, .int cn, .int dp, .int dq, .int dg, .ref h1, .ref h2])), (h1, .inl (a1, 8, .inl se)), (h2, .inl (a2, 8, .inl pu))] U.heap ∧ va_K (dC, dI) vwCl [(a1, .int), (a2, .int)] U ∧ va_D (fun _ => True) [(h0, .inr (0, [.int cp, .int cq, .long cs, .int cn, .int dp, .int dq, .int dg, .ref h1, .ref h2])), (h1, .inl (a1, 8, .inl se)), (h2, .inl (a2, 8, .inl pu))] ∧ dk_E (va_A [(h0, .inr (0, [.int cp, .int cq, .long cs, .int cn, .int dp, .int dq, .int dg, .ref h1, .ref h2])), (h1, .inl (a1, 8, .inl se)), (h2, .inl (a2, 8, .inl pu))] sz) U U.heap)) (va_Qi (fun (r9 : Int32) (u9 : dk_S) => u9 = (cp, cq, cs, cn, dp, dq, dg, se, pu) ∧ ¬ cp = 0 ∧ ∃ ix : Nat, ix < 256 ∧ x = nI ix ∧ dk_Gn cs ix (dk_n cp) (dk_n cq) r9) (dk_B dC dI (va_A [(h0, .inr (0, [.int cp, .int cq, .long cs, .int cn, .int dp, .int dq, .int dg, .ref h1, .ref h2])), (h1, .inl (a1, 8, .inl se)), (h2, .inl (a2, 8, .inl pu))] sz) h0 h1 h2 a1 a2) (va_A [(h0, .inr (0, [.int cp, .int cq, .long cs, .int cn, .int dp, .int dq, .int dg, .ref h1, .ref h2])), (h1, .inl (a1, 8, .inl se)), (h2, .inl (a2, 8, .inl pu))] sz)) (vx_X (fun _ : dk_S => True) (fun E9 u9 t9 => (u9 = (cp, cq, cs, cn, dp, dq, dg, se, pu) ∧ ((E9 = "java/lang/IllegalStateException" ∧ cp = 0) ∨ (E9 = "java/lang/IllegalArgumentException" ∧ ¬ cp = 0 ∧ ¬ (0 ≤ x ∧ x < 256)))) ∧ dk_B dC dI (va_A [(h0, .inr (0, [.int cp, .int cq, .long cs, .int cn, .int dp, .int dq, .int dg, .ref h1, .ref h2])), (h1, .inl (a1, 8, .inl se)), (h2, .inl (a2, 8, .inl pu))] sz) h0 h1 h2 a1 a2 u9 t9) (va_A [(h0, .inr (0, [.int cp, .int cq, .long cs, .int cn, .int dp, .int dq, .int dg, .ref h1, .ref h2])), (h1, .inl (a1, 8, .inl se)), (h2, .inl (a2, 8, .inl pu))] sz)) 1 6 (va_A [(h0, .inr (0, [.int cp, .int cq, .long cs, .int cn, .int dp, .int dq, .int dg, .ref h1, .ref h2])), (h1, .inl (a1, 8, .inl se)), (h2, .inl (a2, 8, .inl pu))] sz) := by
  refine vx_ofW (cc := cX0_generator) (maxL := 2) (ret := (some .int)) (by decide) rfl ?_
  intro p e s m args below meth c s₁ B hml hEx hv
  obtain ⟨rfl, hsz, hP, hK, hD0, hE⟩ := hv
  have hx := B.exec
  have hb := B.bytes
  have hr := B.returns
  have hts := atoms_spec (ws := wsX0_generator) B.pre
  have hown : s.vm.findClass RX0 = some m.cls := findClass_of_methodNamed B.named
  have hlocks := B.notSynchronized
  subst hsz
  have hD := hD0.self (sz := s.heap.size)
  generalize hAe : va_A [(h0, .inr (0, [.int cp, .int cq, .long cs, .int cn, .int dp, .int dq, .int dg, .ref h1, .ref h2])), (h1, .inl (a1, 8, .inl se)), (h2, .inl (a2, 8, .inl pu))] s.heap.size = A at hD hE ⊢
  have hA : ∀ q : Nat, s.heap.size ≤ q → A q := fun q h => by rw [← hAe]; exact Or.inr h
  have hS : va_S A s.heap s.heap [] := va_S.rf
  have hl := lv_entry ([.ref h0, .int x]) (n := 2) (Nat.le_of_ble_eq_true rfl)
  rw [lg_entry_eq]
  generalize (lg_sl ([.ref h0, .int x]) ++ List.replicate (2 - (lg_sl ([.ref h0, .int x])).length) Slot.unset).toArray = ls at hl ⊢
  have hl : lv_has ls 2 [(0, .ref h0), (1, .int x)] := hl
  refine lv_aload_n hx hb dX0_generator_0 rfl (lv_at hl 0 rfl) ?_
  refine va_get (D := (dC, dI)) (ci := 0) (v := .int cp) (C := RX0) (T := TX0) (N := 9) hx hb hts (by decide +kernel) hown hK hP 0 rfl rfl 0 (by decide) (hts (.fieldLink RX0 31 "DomainKeys" "candidateP" "I") (by decide +kernel)) (fun _ h9 => h9) rfl dX0_generator_1 ?_
  refine lv_if_ne (tgt := 17) hx hb dX0_generator_4 (by decide) (fun c_4 => ?_) (fun c_4 => ?_)
  · obtain ⟨n9, hn9, hok, hpq, rfl, rfl, rfl⟩ := hI.resolve_left (fun q => c_4 q.1)
    have htr := dk_try_in cs n9
    have hqi := dk_q_in cs
    refine lv_iload_n hx hb dX0_generator_17 rfl (lv_at hl 1 rfl) ?_
    refine lv_if_lt (tgt := 28) hx hb dX0_generator_18 (by decide) (fun c_18 => ?_) (fun c_18 => ?_)
    · have hno : ¬ (0 ≤ x ∧ x < 256) := fun q => dk_not_lt.mpr q.1 c_18
      obtain ⟨sa_28, hs_28⟩ := hE.2.2.2.2.1 (50, "index is not 0 .. 255") (by decide +kernel)
      refine vx_throwS (own := RX0) (cls := "java/lang/IllegalArgumentException") (text := "index is not 0 .. 255") (names := ["java/lang/RuntimeException", "java/lang/Exception"]) (ik := 48) (is := 50) (ic := 52) (rest := []) hx hb hl9 hown (by decide +kernel) (by decide +kernel) (hts (.classLink RX0 48 "java/lang/IllegalArgumentException") (by decide +kernel)) (hts (.initialized "java/lang/IllegalArgumentException") (by decide +kernel)) hs_28 (vx_hat (L := vx_atS RX0 52 "java/lang/IllegalArgumentException" ["java/lang/RuntimeException", "java/lang/Exception"]) (B := [.castable "java/lang/IllegalArgumentException" "java/lang/IllegalArgumentException", .declares (Bundle.initS "java/lang/RuntimeException"), .declares (Bundle.initS "java/lang/Exception"), .declares (Bundle.initS "java/lang/Throwable")]) (fun w hw => hts w ((by decide +kernel : ∀ w ∈ (vx_atS RX0 52 "java/lang/IllegalArgumentException" ["java/lang/RuntimeException", "java/lang/Exception"]).filter goodWord, w ∈ wsX0_generator) w hw)) (by decide +kernel) (vx_c (va_Nw.use rfl (hE.2.2.1 "java/lang/IllegalArgumentException" (by decide +kernel))) (vx_c (va_Nw.use rfl (hE.2.2.2.1 "java/lang/RuntimeException" (by decide +kernel))) (vx_c (va_Nw.use rfl (hE.2.2.2.1 "java/lang/Exception" (by decide +kernel))) (vx_c (va_Nw.use rfl (hE.2.2.2.1 "java/lang/Throwable" (by decide +kernel))) (vx_n)))))) (by decide +kernel) hE.1 hE.2.1 hS (hl.1.trans hml.symm) dX0_generator_28 dX0_generator_31 dX0_generator_32 dX0_generator_34 dX0_generator_37 (fun x hx => (hEx x hx).elim) (Nat.le_of_ble_eq_true rfl) (Nat.le_of_ble_eq_true rfl) (Nat.le_of_ble_eq_true rfl) (Nat.le_of_ble_eq_true rfl) hlocks (fun t ha hz hk => ?_) hS.2.2 (Nat.le_of_ble_eq_true rfl) (Nat.le_of_ble_eq_true rfl)
      exact ⟨(nI (dk_try cs n9), nI (dk_q cs), cs, nI n9, dp, dq, dg, se, pu), trivial, ⟨⟨rfl, Or.inr ⟨rfl, c_4, hno⟩⟩, hP.kept (fun k q hq => hk q.1 (hP k q hq).lt), va_K.moved ha hK, hD⟩, dk_F hS hz hk⟩
    · refine lv_iload_n hx hb dX0_generator_21 rfl (lv_at hl 1 rfl) ?_
      refine lv_sipush (v := 256) hx hb dX0_generator_22 (by decide) ?_
      refine lv_icmp_lt (tgt := 38) hx hb dX0_generator_25 (by decide) (fun c_25 => ?_) (fun c_25 => ?_)
      · obtain ⟨ix, hix, rfl⟩ := dk_ge0 (dk_not_lt.mp c_18)
        have hi2 : ix < 256 := (nI_ltI (by omega) (by omega)).mp c_25
        refine lv_aload_n hx hb dX0_generator_38 rfl (lv_at hl 0 rfl) ?_
        refine lv_iload_n hx hb dX0_generator_39 rfl (lv_at hl 1 rfl) ?_
        have hPc := hP.sub (ws' := [(h0, .inr (0, [.int (nI (dk_try cs n9)), .int (nI (dk_q cs)), .long cs, .int (nI n9), .int dp, .int dq, .int dg, .ref h1, .ref h2])), (h1, .inl (a1, 8, .inl se)), (h2, .inl (a2, 8, .inl pu))]) [0, 1, 2] rfl
        have hKc := hK.sub (tys' := [(a1, .int), (a2, .int)]) [0, 1] rfl
        refine vp_callSi (W.runV (As := [.int (nI ix)]) (rest := []) ⟨hx, hb, hml, hown, hts⟩ (dk_c_generatorAt l dC dI h0 h1 h2 a1 a2 (nI (dk_try cs n9)) (nI (dk_q cs)) cs (nI n9) dp dq dg se pu (dk_try cs n9) (dk_q cs) ix (by have := hok.1; omega) htr.2 (by omega) (by omega) hi2) (cwV 1 hts gX0_generator_X0_generatorAt rfl rfl rfl (by decide +kernel) ⟨Nat.le_of_ble_eq_true rfl, Nat.le_of_ble_eq_true rfl⟩) ⟨fun a U g mk q => by obtain ⟨q0, qP, qK⟩ := q; exact ⟨q0, qP, va_K.moved (u := U) (U := U.calling g mk a) (Vm.Alike.refl U.vm) qK⟩, va_recv hKc hPc (ci := 0) (q0 := 0) rfl rfl, fun U hU hW => ⟨rfl, by rw [hU]; exact hPc, va_K.moved hW.alike hKc⟩⟩ rfl rfl hl.1 rfl (lv_room (Nat.le_of_ble_eq_true rfl)) dX0_generator_40 ⟨Nat.le_of_ble_eq_true rfl, Nat.le_of_ble_eq_true rfl⟩) (fun r_40 hr_40 => ?_)
        refine W.widen (k := 1) (n := 6) (Nat.le_of_ble_eq_true rfl) (Nat.le_of_ble_eq_true rfl) ?_
        exact vx_ret (W.iret (v := r_40) hx hb hr (fun t ht hW => ⟨⟨r_40, (nI (dk_try cs n9), nI (dk_q cs), cs, nI n9, dp, dq, dg, se, pu), rfl, ⟨rfl, c_4, ix, hi2, rfl, by rw [dk_n_nI htr.2, dk_n_nI (by omega)]; exact hr_40⟩, by rw [ht]; exact hP, va_K.moved hW.alike hK, hD⟩, hS.F ht⟩) hS.2.2 dX0_generator_43)
      · have hno : ¬ (0 ≤ x ∧ x < 256) := fun q => c_25 q.2
        obtain ⟨sa_28, hs_28⟩ := hE.2.2.2.2.1 (50, "index is not 0 .. 255") (by decide +kernel)
        refine vx_throwS (own := RX0) (cls := "java/lang/IllegalArgumentException") (text := "index is not 0 .. 255") (names := ["java/lang/RuntimeException", "java/lang/Exception"]) (ik := 48) (is := 50) (ic := 52) (rest := []) hx hb hl9 hown (by decide +kernel) (by decide +kernel) (hts (.classLink RX0 48 "java/lang/IllegalArgumentException") (by decide +kernel)) (hts (.initialized "java/lang/IllegalArgumentException") (by decide +kernel)) hs_28 (vx_hat (L := vx_atS RX0 52 "java/lang/IllegalArgumentException" ["java/lang/RuntimeException", "java/lang/Exception"]) (B := [.castable "java/lang/IllegalArgumentException" "java/lang/IllegalArgumentException", .declares (Bundle.initS "java/lang/RuntimeException"), .declares (Bundle.initS "java/lang/Exception"), .declares (Bundle.initS "java/lang/Throwable")]) (fun w hw => hts w ((by decide +kernel : ∀ w ∈ (vx_atS RX0 52 "java/lang/IllegalArgumentException" ["java/lang/RuntimeException", "java/lang/Exception"]).filter goodWord, w ∈ wsX0_generator) w hw)) (by decide +kernel) (vx_c (va_Nw.use rfl (hE.2.2.1 "java/lang/IllegalArgumentException" (by decide +kernel))) (vx_c (va_Nw.use rfl (hE.2.2.2.1 "java/lang/RuntimeException" (by decide +kernel))) (vx_c (va_Nw.use rfl (hE.2.2.2.1 "java/lang/Exception" (by decide +kernel))) (vx_c (va_Nw.use rfl (hE.2.2.2.1 "java/lang/Throwable" (by decide +kernel))) (vx_n)))))) (by decide +kernel) hE.1 hE.2.1 hS (hl.1.trans hml.symm) dX0_generator_28 dX0_generator_31 dX0_generator_32 dX0_generator_34 dX0_generator_37 (fun x hx => (hEx x hx).elim) (Nat.le_of_ble_eq_true rfl) (Nat.le_of_ble_eq_true rfl) (Nat.le_of_ble_eq_true rfl) (Nat.le_of_ble_eq_true rfl) hlocks (fun t ha hz hk => ?_) hS.2.2 (Nat.le_of_ble_eq_true rfl) (Nat.le_of_ble_eq_true rfl)
        exact ⟨(nI (dk_try cs n9), nI (dk_q cs), cs, nI n9, dp, dq, dg, se, pu), trivial, ⟨⟨rfl, Or.inr ⟨rfl, c_4, hno⟩⟩, hP.kept (fun k q hq => hk q.1 (hP k q hq).lt), va_K.moved ha hK, hD⟩, dk_F hS hz hk⟩
  · obtain ⟨sa_7, hs_7⟩ := hE.2.2.2.2.1 (43, "no candidate") (by decide +kernel)
    refine vx_throwS (own := RX0) (cls := "java/lang/IllegalStateException") (text := "no candidate") (names := ["java/lang/RuntimeException", "java/lang/Exception"]) (ik := 41) (is := 43) (ic := 45) (rest := []) hx hb hl9 hown (by decide +kernel) (by decide +kernel) (hts (.classLink RX0 41 "java/lang/IllegalStateException") (by decide +kernel)) (hts (.initialized "java/lang/IllegalStateException") (by decide +kernel)) hs_7 (vx_hat (L := vx_atS RX0 45 "java/lang/IllegalStateException" ["java/lang/RuntimeException", "java/lang/Exception"]) (B := [.castable "java/lang/IllegalStateException" "java/lang/IllegalStateException", .declares (Bundle.initS "java/lang/RuntimeException"), .declares (Bundle.initS "java/lang/Exception"), .declares (Bundle.initS "java/lang/Throwable")]) (fun w hw => hts w ((by decide +kernel : ∀ w ∈ (vx_atS RX0 45 "java/lang/IllegalStateException" ["java/lang/RuntimeException", "java/lang/Exception"]).filter goodWord, w ∈ wsX0_generator) w hw)) (by decide +kernel) (vx_c (va_Nw.use rfl (hE.2.2.1 "java/lang/IllegalStateException" (by decide +kernel))) (vx_c (va_Nw.use rfl (hE.2.2.2.1 "java/lang/RuntimeException" (by decide +kernel))) (vx_c (va_Nw.use rfl (hE.2.2.2.1 "java/lang/Exception" (by decide +kernel))) (vx_c (va_Nw.use rfl (hE.2.2.2.1 "java/lang/Throwable" (by decide +kernel))) (vx_n)))))) (by decide +kernel) hE.1 hE.2.1 hS (hl.1.trans hml.symm) dX0_generator_7 dX0_generator_10 dX0_generator_11 dX0_generator_13 dX0_generator_16 (fun x hx => (hEx x hx).elim) (Nat.le_of_ble_eq_true rfl) (Nat.le_of_ble_eq_true rfl) (Nat.le_of_ble_eq_true rfl) (Nat.le_of_ble_eq_true rfl) hlocks (fun t ha hz hk => ?_) hS.2.2 (Nat.le_of_ble_eq_true rfl) (Nat.le_of_ble_eq_true rfl)
    exact ⟨(cp, cq, cs, cn, dp, dq, dg, se, pu), trivial, ⟨⟨rfl, Or.inl ⟨rfl, c_4⟩⟩, hP.kept (fun k q hq => hk q.1 (hP k q hq).lt), va_K.moved ha hK, hD⟩, dk_F hS hz hk⟩

set_option maxHeartbeats 4000000 in
set_option maxRecDepth 100000 in
theorem dk_c_publicNumber (l : Launch) (hl9 : l.stackTraces = false) (dC : Nat → ClassId) (dI : Nat → Nat → Nat) (h0 h1 h2 : Nat) (a1 a2 : ClassId) (cp cq : Int32) (cs : Int64) (cn dp dq dg : Int32) (se pu : Nat → Int32) (x : Int32) (hIK : dk_IK dp dq dg se pu) (sz : Nat) : vx_Met l yX0_publicNumber wsX0_publicNumber ({ frames := 7, cells := 1, slots := 6, locals := 103 }) (va_Pc [.ref h0, .int x] (fun U => U.heap.size = sz ∧ va_P (dC, dI) vwCl [(h0, .inr (0, [.int cp, .int cq, .long cs, .int cn, .int dp, .int dq, .int dg, .ref h1, .ref h2])), (h1, .inl (a1, 8, .inl se)), (h2, .inl (a2, 8, .inl pu))] U.heap ∧ va_K (dC, dI) vwCl [(a1, .int), (a2, .int)] U ∧ va_D (fun _ => True) [(h0, .inr (0, [.int cp, .int cq, .long cs, .int cn, .int dp, .int dq, .int dg, .ref h1, .ref h2])), (h1, .inl (a1, 8, .inl se)), (h2, .inl (a2, 8, .inl pu))] ∧ dk_E (va_A [(h0, .inr (0, [.int cp, .int cq, .long cs, .int cn, .int dp, .int dq, .int dg, .ref h1, .ref h2])), (h1, .inl (a1, 8, .inl se)), (h2, .inl (a2, 8, .inl pu))] sz) U U.heap)) (va_Qi (fun (r9 : Int32) (u9 : dk_S) => u9 = (cp, cq, cs, cn, dp, dq, dg, se, pu) ∧ dk_fpub dp dg se x = (0, r9)) (dk_B dC dI (va_A [(h0, .inr (0, [.int cp, .int cq, .long cs, .int cn, .int dp, .int dq, .int dg, .ref h1, .ref h2])), (h1, .inl (a1, 8, .inl se)), (h2, .inl (a2, 8, .inl pu))] sz) h0 h1 h2 a1 a2) (va_A [(h0, .inr (0, [.int cp, .int cq, .long cs, .int cn, .int dp, .int dq, .int dg, .ref h1, .ref h2])), (h1, .inl (a1, 8, .inl se)), (h2, .inl (a2, 8, .inl pu))] sz)) (vx_X (fun _ : dk_S => True) (fun E9 u9 t9 => (u9 = (cp, cq, cs, cn, dp, dq, dg, se, pu) ∧ E9 = "java/util/NoSuchElementException" ∧ dk_fpub dp dg se x = (1, 0)) ∧ dk_B dC dI (va_A [(h0, .inr (0, [.int cp, .int cq, .long cs, .int cn, .int dp, .int dq, .int dg, .ref h1, .ref h2])), (h1, .inl (a1, 8, .inl se)), (h2, .inl (a2, 8, .inl pu))] sz) h0 h1 h2 a1 a2 u9 t9) (va_A [(h0, .inr (0, [.int cp, .int cq, .long cs, .int cn, .int dp, .int dq, .int dg, .ref h1, .ref h2])), (h1, .inl (a1, 8, .inl se)), (h2, .inl (a2, 8, .inl pu))] sz)) 1 6 (va_A [(h0, .inr (0, [.int cp, .int cq, .long cs, .int cn, .int dp, .int dq, .int dg, .ref h1, .ref h2])), (h1, .inl (a1, 8, .inl se)), (h2, .inl (a2, 8, .inl pu))] sz) := by
  refine vx_ofW (cc := cX0_publicNumber) (maxL := 2) (ret := (some .int)) (by decide) rfl ?_
  intro p e s m args below meth c s₁ B hml hEx hv
  obtain ⟨rfl, hsz, hP, hK, hD0, hE⟩ := hv
  have hx := B.exec
  have hb := B.bytes
  have hr := B.returns
  have hts := atoms_spec (ws := wsX0_publicNumber) B.pre
  have hown : s.vm.findClass RX0 = some m.cls := findClass_of_methodNamed B.named
  have hlocks := B.notSynchronized
  subst hsz
  have hD := hD0.self (sz := s.heap.size)
  generalize hAe : va_A [(h0, .inr (0, [.int cp, .int cq, .long cs, .int cn, .int dp, .int dq, .int dg, .ref h1, .ref h2])), (h1, .inl (a1, 8, .inl se)), (h2, .inl (a2, 8, .inl pu))] s.heap.size = A at hD hE ⊢
  have hA : ∀ q : Nat, s.heap.size ≤ q → A q := fun q h => by rw [← hAe]; exact Or.inr h
  have hS : va_S A s.heap s.heap [] := va_S.rf
  have hl := lv_entry ([.ref h0, .int x]) (n := 2) (Nat.le_of_ble_eq_true rfl)
  rw [lg_entry_eq]
  generalize (lg_sl ([.ref h0, .int x]) ++ List.replicate (2 - (lg_sl ([.ref h0, .int x])).length) Slot.unset).toArray = ls at hl ⊢
  have hl : lv_has ls 2 [(0, .ref h0), (1, .int x)] := hl
  refine lv_aload_n hx hb dX0_publicNumber_0 rfl (lv_at hl 0 rfl) ?_
  refine lv_iload_n hx hb dX0_publicNumber_1 rfl (lv_at hl 1 rfl) ?_
  have hPc := hP.sub (ws' := [(h0, .inr (0, [.int cp, .int cq, .long cs, .int cn, .int dp, .int dq, .int dg, .ref h1, .ref h2])), (h1, .inl (a1, 8, .inl se)), (h2, .inl (a2, 8, .inl pu))]) [0, 1, 2] rfl
  have hDc := hD.sub (ws' := [(h0, .inr (0, [.int cp, .int cq, .long cs, .int cn, .int dp, .int dq, .int dg, .ref h1, .ref h2])), (h1, .inl (a1, 8, .inl se)), (h2, .inl (a2, 8, .inl pu))]) [0, 1, 2] (by decide) rfl
  have hKc := hK.sub (tys' := [(a1, .int), (a2, .int)]) [0, 1] rfl
  have hFc := va_free (wc := [(h0, .inr (0, [.int cp, .int cq, .long cs, .int cn, .int dp, .int dq, .int dg, .ref h1, .ref h2])), (h1, .inl (a1, 8, .inl se)), (h2, .inl (a2, 8, .inl pu))]) hD hS hA [0, 1, 2] rfl
  refine vx_callv (vx_runV (As := [.int x]) (rest := []) ⟨hx, hb, hml, hown, hts⟩ (dk_c_requireKey l hl9 dC dI h0 h1 h2 a1 a2 cp cq cs cn dp dq dg se pu x _) (cwV 1 hts gX0_publicNumber_X0_requireKey rfl rfl rfl (by decide +kernel) ⟨Nat.le_of_ble_eq_true rfl, Nat.le_of_ble_eq_true rfl⟩) ⟨fun a U g mk q => by obtain ⟨q0, q1, qP, qK, qD, qE⟩ := q; exact ⟨q0, q1, qP, va_K.moved (u := U) (U := U.calling g mk a) (Vm.Alike.refl U.vm) qK, qD, qE.blind⟩, va_recv hKc hPc (ci := 0) (q0 := 0) rfl rfl, fun U hU hW => ⟨rfl, by rw [hU], by rw [hU]; exact hPc, va_K.moved hW.alike hKc, hDc.weaken (fun _ _ _ _ => trivial), hE.go hS hFc hU hW⟩⟩ rfl rfl hl.1 rfl (lv_room (Nat.le_of_ble_eq_true rfl)) dX0_publicNumber_2 ⟨Nat.le_of_ble_eq_true rfl, Nat.le_of_ble_eq_true rfl⟩) hS (fun q _ h => hFc q h) hFc (fun q _ h => hFc q h) (fun E9 ce q9 u t H1 locs ht hvm hw hB hz1 hk1 hS hce hcv hcl => ?_) (fun u t H1 locs ht hvm hw hB hz1 hk1 hS => ?_)
  · obtain ⟨hEc, hB⟩ := hB
    obtain ⟨rfl, hE9, hnk⟩ := hEc
    obtain ⟨hP1, hK1, hD1⟩ := hB
    rw [ht] at hP1
    have hK1 := va_K.moved hvm.symm hK1
    obtain ⟨hP, hD⟩ := va_join (wr := []) (w1 := [(h0, .inr (0, [.int cp, .int cq, .long cs, .int cn, .int dp, .int dq, .int dg, .ref h1, .ref h2])), (h1, .inl (a1, 8, .inl se)), (h2, .inl (a2, 8, .inl pu))]) hP hD [0, 1, 2] [] rfl rfl (by decide) (by decide) hk1 hFc hP1 hD1
    have hK := (hK.sub (tys' := []) [] rfl).app hK1
    generalize H1 = H at hP hS hce ⊢
    have hP : va_P (dC, dI) vwCl [(h0, .inr (0, [.int cp, .int cq, .long cs, .int cn, .int dp, .int dq, .int dg, .ref h1, .ref h2])), (h1, .inl (a1, 8, .inl se)), (h2, .inl (a2, 8, .inl pu))] H := hP
    have hD : va_D A [(h0, .inr (0, [.int cp, .int cq, .long cs, .int cn, .int dp, .int dq, .int dg, .ref h1, .ref h2])), (h1, .inl (a1, 8, .inl se)), (h2, .inl (a2, 8, .inl pu))] := hD
    have hK : va_K (dC, dI) vwCl [(a1, .int), (a2, .int)] s := hK
    exact vx_out (E := E9) (fun x hx => (hEx x hx).elim) hlocks hce hcv hcl (fun t ht ha => ⟨(cp, cq, cs, cn, dp, dq, dg, se, pu), trivial, ⟨⟨rfl, hE9, by rw [dk_fpub, if_pos hnk]⟩, by rw [ht]; exact hP, va_K.moved ha hK, hD⟩, hS.F ht⟩) hS.2.2 (Nat.le_of_ble_eq_true rfl) (Nat.le_of_ble_eq_true rfl)
  obtain ⟨rfl, hhk⟩ := hw
  obtain ⟨j, hj, rfl⟩ := dk_sl_of.mp hhk.1
  have hse : ¬ se j = 0 := (dk_hk_nI hj).mp hhk
  obtain ⟨hP1, hK1, hD1⟩ := hB
  rw [ht] at hP1
  have hK1 := va_K.moved hvm.symm hK1
  obtain ⟨hP, hD⟩ := va_join (wr := []) (w1 := [(h0, .inr (0, [.int cp, .int cq, .long cs, .int cn, .int dp, .int dq, .int dg, .ref h1, .ref h2])), (h1, .inl (a1, 8, .inl se)), (h2, .inl (a2, 8, .inl pu))]) hP hD [0, 1, 2] [] rfl rfl (by decide) (by decide) hk1 hFc hP1 hD1
  have hK := (hK.sub (tys' := []) [] rfl).app hK1
  generalize H1 = H at hP hS ⊢
  have hP : va_P (dC, dI) vwCl [(h0, .inr (0, [.int cp, .int cq, .long cs, .int cn, .int dp, .int dq, .int dg, .ref h1, .ref h2])), (h1, .inl (a1, 8, .inl se)), (h2, .inl (a2, 8, .inl pu))] H := hP
  have hD : va_D A [(h0, .inr (0, [.int cp, .int cq, .long cs, .int cn, .int dp, .int dq, .int dg, .ref h1, .ref h2])), (h1, .inl (a1, 8, .inl se)), (h2, .inl (a2, 8, .inl pu))] := hD
  have hK : va_K (dC, dI) vwCl [(a1, .int), (a2, .int)] s := hK
  refine lv_aload_n hx hb dX0_publicNumber_5 rfl (lv_at hl 0 rfl) ?_
  refine va_get (D := (dC, dI)) (ci := 0) (v := .ref h2) (C := RX0) (T := TX0) (N := 9) hx hb hts (by decide +kernel) hown hK hP 0 rfl rfl 8 (by decide) (hts (.fieldLink RX0 13 "DomainKeys" "publicNumbers" "[I") (by decide +kernel)) (fun _ h9 => h9) rfl dX0_publicNumber_6 ?_
  refine lv_iload_n hx hb dX0_publicNumber_9 rfl (lv_at hl 1 rfl) ?_
  refine va_iald hx hb hK hP 2 1 rfl rfl (vp_in_nI hj (by decide)) dX0_publicNumber_10 ?_
  refine lv_topi (fun v_10 ev_10 => ?_)
  have ev_10 : v_10 = pu j := ev_10.trans (congrArg pu (nI_clamp (Nat.lt_trans hj (by decide))))
  subst ev_10
  exact vx_ret (W.iret (v := (pu j)) hx hb hr (fun t ht hW => ⟨⟨pu j, (cp, cq, cs, cn, dp, dq, dg, se, pu), rfl, ⟨rfl, by rw [dk_fpub, if_neg (fun q => q hhk), dk_n_nI (by omega), ((hIK j hj).resolve_left hse).2.2]⟩, by rw [ht]; exact hP, va_K.moved hW.alike hK, hD⟩, hS.F ht⟩) hS.2.2 dX0_publicNumber_11)

set_option maxHeartbeats 4000000 in
set_option maxRecDepth 100000 in
theorem dk_c_forget (l : Launch) (hl9 : l.stackTraces = false) (dC : Nat → ClassId) (dI : Nat → Nat → Nat) (h0 h1 h2 : Nat) (a1 a2 : ClassId) (cp cq : Int32) (cs : Int64) (cn dp dq dg : Int32) (se pu : Nat → Int32) (x : Int32) (sz : Nat) : vx_Met l yX0_forget wsX0_forget ({ frames := 7, cells := 1, slots := 6, locals := 103 }) (va_Pc [.ref h0, .int x] (fun U => U.heap.size = sz ∧ va_P (dC, dI) vwCl [(h0, .inr (0, [.int cp, .int cq, .long cs, .int cn, .int dp, .int dq, .int dg, .ref h1, .ref h2])), (h1, .inl (a1, 8, .inl se)), (h2, .inl (a2, 8, .inl pu))] U.heap ∧ va_K (dC, dI) vwCl [(a1, .int), (a2, .int)] U ∧ va_D (fun _ => True) [(h0, .inr (0, [.int cp, .int cq, .long cs, .int cn, .int dp, .int dq, .int dg, .ref h1, .ref h2])), (h1, .inl (a1, 8, .inl se)), (h2, .inl (a2, 8, .inl pu))] ∧ dk_E (va_A [(h0, .inr (0, [.int cp, .int cq, .long cs, .int cn, .int dp, .int dq, .int dg, .ref h1, .ref h2])), (h1, .inl (a1, 8, .inl se)), (h2, .inl (a2, 8, .inl pu))] sz) U U.heap)) (va_Qv (fun u9 : dk_S => u9 = (cp, cq, cs, cn, dp, dq, dg, upd se (dk_n x) 0, upd pu (dk_n x) 0) ∧ dk_ffor se x = 0) (dk_B dC dI (va_A [(h0, .inr (0, [.int cp, .int cq, .long cs, .int cn, .int dp, .int dq, .int dg, .ref h1, .ref h2])), (h1, .inl (a1, 8, .inl se)), (h2, .inl (a2, 8, .inl pu))] sz) h0 h1 h2 a1 a2) (va_A [(h0, .inr (0, [.int cp, .int cq, .long cs, .int cn, .int dp, .int dq, .int dg, .ref h1, .ref h2])), (h1, .inl (a1, 8, .inl se)), (h2, .inl (a2, 8, .inl pu))] sz)) (vx_X (fun _ : dk_S => True) (fun E9 u9 t9 => (u9 = (cp, cq, cs, cn, dp, dq, dg, se, pu) ∧ E9 = "java/util/NoSuchElementException" ∧ dk_ffor se x = 1) ∧ dk_B dC dI (va_A [(h0, .inr (0, [.int cp, .int cq, .long cs, .int cn, .int dp, .int dq, .int dg, .ref h1, .ref h2])), (h1, .inl (a1, 8, .inl se)), (h2, .inl (a2, 8, .inl pu))] sz) h0 h1 h2 a1 a2 u9 t9) (va_A [(h0, .inr (0, [.int cp, .int cq, .long cs, .int cn, .int dp, .int dq, .int dg, .ref h1, .ref h2])), (h1, .inl (a1, 8, .inl se)), (h2, .inl (a2, 8, .inl pu))] sz)) 1 6 (va_A [(h0, .inr (0, [.int cp, .int cq, .long cs, .int cn, .int dp, .int dq, .int dg, .ref h1, .ref h2])), (h1, .inl (a1, 8, .inl se)), (h2, .inl (a2, 8, .inl pu))] sz) := by
  refine vx_ofW (cc := cX0_forget) (maxL := 2) (ret := none) (by decide) rfl ?_
  intro p e s m args below meth c s₁ B hml hEx hv
  obtain ⟨rfl, hsz, hP, hK, hD0, hE⟩ := hv
  have hx := B.exec
  have hb := B.bytes
  have hr := B.returns
  have hts := atoms_spec (ws := wsX0_forget) B.pre
  have hown : s.vm.findClass RX0 = some m.cls := findClass_of_methodNamed B.named
  have hlocks := B.notSynchronized
  subst hsz
  have hD := hD0.self (sz := s.heap.size)
  generalize hAe : va_A [(h0, .inr (0, [.int cp, .int cq, .long cs, .int cn, .int dp, .int dq, .int dg, .ref h1, .ref h2])), (h1, .inl (a1, 8, .inl se)), (h2, .inl (a2, 8, .inl pu))] s.heap.size = A at hD hE ⊢
  have hA : ∀ q : Nat, s.heap.size ≤ q → A q := fun q h => by rw [← hAe]; exact Or.inr h
  have hS : va_S A s.heap s.heap [] := va_S.rf
  have hl := lv_entry ([.ref h0, .int x]) (n := 2) (Nat.le_of_ble_eq_true rfl)
  rw [lg_entry_eq]
  generalize (lg_sl ([.ref h0, .int x]) ++ List.replicate (2 - (lg_sl ([.ref h0, .int x])).length) Slot.unset).toArray = ls at hl ⊢
  have hl : lv_has ls 2 [(0, .ref h0), (1, .int x)] := hl
  refine lv_aload_n hx hb dX0_forget_0 rfl (lv_at hl 0 rfl) ?_
  refine lv_iload_n hx hb dX0_forget_1 rfl (lv_at hl 1 rfl) ?_
  have hPc := hP.sub (ws' := [(h0, .inr (0, [.int cp, .int cq, .long cs, .int cn, .int dp, .int dq, .int dg, .ref h1, .ref h2])), (h1, .inl (a1, 8, .inl se)), (h2, .inl (a2, 8, .inl pu))]) [0, 1, 2] rfl
  have hDc := hD.sub (ws' := [(h0, .inr (0, [.int cp, .int cq, .long cs, .int cn, .int dp, .int dq, .int dg, .ref h1, .ref h2])), (h1, .inl (a1, 8, .inl se)), (h2, .inl (a2, 8, .inl pu))]) [0, 1, 2] (by decide) rfl
  have hKc := hK.sub (tys' := [(a1, .int), (a2, .int)]) [0, 1] rfl
  have hFc := va_free (wc := [(h0, .inr (0, [.int cp, .int cq, .long cs, .int cn, .int dp, .int dq, .int dg, .ref h1, .ref h2])), (h1, .inl (a1, 8, .inl se)), (h2, .inl (a2, 8, .inl pu))]) hD hS hA [0, 1, 2] rfl
  refine vx_callv (vx_runV (As := [.int x]) (rest := []) ⟨hx, hb, hml, hown, hts⟩ (dk_c_requireKey l hl9 dC dI h0 h1 h2 a1 a2 cp cq cs cn dp dq dg se pu x _) (cwV 1 hts gX0_forget_X0_requireKey rfl rfl rfl (by decide +kernel) ⟨Nat.le_of_ble_eq_true rfl, Nat.le_of_ble_eq_true rfl⟩) ⟨fun a U g mk q => by obtain ⟨q0, q1, qP, qK, qD, qE⟩ := q; exact ⟨q0, q1, qP, va_K.moved (u := U) (U := U.calling g mk a) (Vm.Alike.refl U.vm) qK, qD, qE.blind⟩, va_recv hKc hPc (ci := 0) (q0 := 0) rfl rfl, fun U hU hW => ⟨rfl, by rw [hU], by rw [hU]; exact hPc, va_K.moved hW.alike hKc, hDc.weaken (fun _ _ _ _ => trivial), hE.go hS hFc hU hW⟩⟩ rfl rfl hl.1 rfl (lv_room (Nat.le_of_ble_eq_true rfl)) dX0_forget_2 ⟨Nat.le_of_ble_eq_true rfl, Nat.le_of_ble_eq_true rfl⟩) hS (fun q _ h => hFc q h) hFc (fun q _ h => hFc q h) (fun E9 ce q9 u t H1 locs ht hvm hw hB hz1 hk1 hS hce hcv hcl => ?_) (fun u t H1 locs ht hvm hw hB hz1 hk1 hS => ?_)
  · obtain ⟨hEc, hB⟩ := hB
    obtain ⟨rfl, hE9, hnk⟩ := hEc
    obtain ⟨hP1, hK1, hD1⟩ := hB
    rw [ht] at hP1
    have hK1 := va_K.moved hvm.symm hK1
    obtain ⟨hP, hD⟩ := va_join (wr := []) (w1 := [(h0, .inr (0, [.int cp, .int cq, .long cs, .int cn, .int dp, .int dq, .int dg, .ref h1, .ref h2])), (h1, .inl (a1, 8, .inl se)), (h2, .inl (a2, 8, .inl pu))]) hP hD [0, 1, 2] [] rfl rfl (by decide) (by decide) hk1 hFc hP1 hD1
    have hK := (hK.sub (tys' := []) [] rfl).app hK1
    generalize H1 = H at hP hS hce ⊢
    have hP : va_P (dC, dI) vwCl [(h0, .inr (0, [.int cp, .int cq, .long cs, .int cn, .int dp, .int dq, .int dg, .ref h1, .ref h2])), (h1, .inl (a1, 8, .inl se)), (h2, .inl (a2, 8, .inl pu))] H := hP
    have hD : va_D A [(h0, .inr (0, [.int cp, .int cq, .long cs, .int cn, .int dp, .int dq, .int dg, .ref h1, .ref h2])), (h1, .inl (a1, 8, .inl se)), (h2, .inl (a2, 8, .inl pu))] := hD
    have hK : va_K (dC, dI) vwCl [(a1, .int), (a2, .int)] s := hK
    exact vx_out (E := E9) (fun x hx => (hEx x hx).elim) hlocks hce hcv hcl (fun t ht ha => ⟨(cp, cq, cs, cn, dp, dq, dg, se, pu), trivial, ⟨⟨rfl, hE9, by rw [dk_ffor, if_pos hnk]⟩, by rw [ht]; exact hP, va_K.moved ha hK, hD⟩, hS.F ht⟩) hS.2.2 (Nat.le_of_ble_eq_true rfl) (Nat.le_of_ble_eq_true rfl)
  obtain ⟨rfl, hhk⟩ := hw
  obtain ⟨j, hj, rfl⟩ := dk_sl_of.mp hhk.1
  have hse : ¬ se j = 0 := (dk_hk_nI hj).mp hhk
  obtain ⟨hP1, hK1, hD1⟩ := hB
  rw [ht] at hP1
  have hK1 := va_K.moved hvm.symm hK1
  obtain ⟨hP, hD⟩ := va_join (wr := []) (w1 := [(h0, .inr (0, [.int cp, .int cq, .long cs, .int cn, .int dp, .int dq, .int dg, .ref h1, .ref h2])), (h1, .inl (a1, 8, .inl se)), (h2, .inl (a2, 8, .inl pu))]) hP hD [0, 1, 2] [] rfl rfl (by decide) (by decide) hk1 hFc hP1 hD1
  have hK := (hK.sub (tys' := []) [] rfl).app hK1
  generalize H1 = H at hP hS ⊢
  have hP : va_P (dC, dI) vwCl [(h0, .inr (0, [.int cp, .int cq, .long cs, .int cn, .int dp, .int dq, .int dg, .ref h1, .ref h2])), (h1, .inl (a1, 8, .inl se)), (h2, .inl (a2, 8, .inl pu))] H := hP
  have hD : va_D A [(h0, .inr (0, [.int cp, .int cq, .long cs, .int cn, .int dp, .int dq, .int dg, .ref h1, .ref h2])), (h1, .inl (a1, 8, .inl se)), (h2, .inl (a2, 8, .inl pu))] := hD
  have hK : va_K (dC, dI) vwCl [(a1, .int), (a2, .int)] s := hK
  refine lv_aload_n hx hb dX0_forget_5 rfl (lv_at hl 0 rfl) ?_
  refine lv_iload_n hx hb dX0_forget_6 rfl (lv_at hl 1 rfl) ?_
  have hPc := hP.sub (ws' := [(h0, .inr (0, [.int cp, .int cq, .long cs, .int cn, .int dp, .int dq, .int dg, .ref h1, .ref h2])), (h1, .inl (a1, 8, .inl se)), (h2, .inl (a2, 8, .inl pu))]) [0, 1, 2] rfl
  have hDc := hD.sub (ws' := [(h0, .inr (0, [.int cp, .int cq, .long cs, .int cn, .int dp, .int dq, .int dg, .ref h1, .ref h2])), (h1, .inl (a1, 8, .inl se)), (h2, .inl (a2, 8, .inl pu))]) [0, 1, 2] (by decide) rfl
  have hKc := hK.sub (tys' := [(a1, .int), (a2, .int)]) [0, 1] rfl
  have hFc := va_free (wc := [(h0, .inr (0, [.int cp, .int cq, .long cs, .int cn, .int dp, .int dq, .int dg, .ref h1, .ref h2])), (h1, .inl (a1, 8, .inl se)), (h2, .inl (a2, 8, .inl pu))]) hD hS hA [0, 1, 2] rfl
  refine va_callv (va_runV (As := [.int (nI j)]) (rest := []) ⟨hx, hb, hml, hown, hts⟩ (dk_c_clearSlot l dC dI h0 h1 h2 a1 a2 cp cq cs cn dp dq dg se pu j hj _) (cwV 1 hts gX0_forget_X0_clearSlot rfl rfl rfl (by decide +kernel) ⟨Nat.le_of_ble_eq_true rfl, Nat.le_of_ble_eq_true rfl⟩) ⟨fun a U g mk q => by obtain ⟨q0, q1, qP, qK, qD⟩ := q; exact ⟨q0, q1, qP, va_K.moved (u := U) (U := U.calling g mk a) (Vm.Alike.refl U.vm) qK, qD⟩, va_recv hKc hPc (ci := 0) (q0 := 0) rfl rfl, fun U hU hW => ⟨rfl, by rw [hU], by rw [hU]; exact hPc, va_K.moved hW.alike hKc, hDc.weaken (fun _ _ _ _ => trivial)⟩⟩ rfl rfl hl.1 rfl (lv_room (Nat.le_of_ble_eq_true rfl)) dX0_forget_7 ⟨Nat.le_of_ble_eq_true rfl, Nat.le_of_ble_eq_true rfl⟩) hS (fun q _ h => hFc q h) hFc (fun u t H1 locs ht hvm hw hB hz1 hk1 hS => ?_)
  subst hw
  obtain ⟨hP1, hK1, hD1⟩ := hB
  rw [ht] at hP1
  have hK1 := va_K.moved hvm.symm hK1
  obtain ⟨hP, hD⟩ := va_join (wr := []) (w1 := [(h0, .inr (0, [.int cp, .int cq, .long cs, .int cn, .int dp, .int dq, .int dg, .ref h1, .ref h2])), (h1, .inl (a1, 8, .inl (upd se j 0))), (h2, .inl (a2, 8, .inl (upd pu j 0)))]) hP hD [0, 1, 2] [] rfl rfl (by decide) (by decide) hk1 hFc hP1 hD1
  have hK := (hK.sub (tys' := []) [] rfl).app hK1
  generalize H1 = H at hP hS ⊢
  have hP : va_P (dC, dI) vwCl [(h0, .inr (0, [.int cp, .int cq, .long cs, .int cn, .int dp, .int dq, .int dg, .ref h1, .ref h2])), (h1, .inl (a1, 8, .inl (upd se j 0))), (h2, .inl (a2, 8, .inl (upd pu j 0)))] H := hP
  have hD : va_D A [(h0, .inr (0, [.int cp, .int cq, .long cs, .int cn, .int dp, .int dq, .int dg, .ref h1, .ref h2])), (h1, .inl (a1, 8, .inl (upd se j 0))), (h2, .inl (a2, 8, .inl (upd pu j 0)))] := hD
  have hK : va_K (dC, dI) vwCl [(a1, .int), (a2, .int)] s := hK
  exact vx_ret (W.vret hx hb hr (fun t ht hW => ⟨⟨(cp, cq, cs, cn, dp, dq, dg, (upd se j 0), (upd pu j 0)), rfl, ⟨by rw [dk_n_nI (by omega)], by rw [dk_ffor, if_neg (fun q => q hhk)]⟩, by rw [ht]; exact hP, va_K.moved hW.alike hK, hD⟩, hS.F ht⟩) hS.2.2 dX0_forget_10)

set_option maxHeartbeats 4000000 in
set_option maxRecDepth 100000 in
theorem dk_c_fits (l : Launch) (hl9 : l.stackTraces = false) (dC : Nat → ClassId) (dI : Nat → Nat → Nat) (h0 h1 h2 : Nat) (a1 a2 : ClassId) (cp cq : Int32) (cs : Int64) (cn dp dq dg : Int32) (se pu : Nat → Int32) (y : Int32) (hI : dk_ID dp dq dg) (sz : Nat) : vx_Met l yX0_fits wsX0_fits ({ frames := 7, cells := 1, slots := 6, locals := 102 }) (va_Pc [.ref h0, .int y] (fun U => U.heap.size = sz ∧ va_P (dC, dI) vwCl [(h0, .inr (0, [.int cp, .int cq, .long cs, .int cn, .int dp, .int dq, .int dg, .ref h1, .ref h2])), (h1, .inl (a1, 8, .inl se)), (h2, .inl (a2, 8, .inl pu))] U.heap ∧ va_K (dC, dI) vwCl [(a1, .int), (a2, .int)] U ∧ va_D (fun _ => True) [(h0, .inr (0, [.int cp, .int cq, .long cs, .int cn, .int dp, .int dq, .int dg, .ref h1, .ref h2])), (h1, .inl (a1, 8, .inl se)), (h2, .inl (a2, 8, .inl pu))] ∧ dk_E (va_A [(h0, .inr (0, [.int cp, .int cq, .long cs, .int cn, .int dp, .int dq, .int dg, .ref h1, .ref h2])), (h1, .inl (a1, 8, .inl se)), (h2, .inl (a2, 8, .inl pu))] sz) U U.heap)) (va_Qi (fun (r9 : Int32) (u9 : dk_S) => u9 = (cp, cq, cs, cn, dp, dq, dg, se, pu) ∧ dk_ffit dp dq y = (0, r9)) (dk_B dC dI (va_A [(h0, .inr (0, [.int cp, .int cq, .long cs, .int cn, .int dp, .int dq, .int dg, .ref h1, .ref h2])), (h1, .inl (a1, 8, .inl se)), (h2, .inl (a2, 8, .inl pu))] sz) h0 h1 h2 a1 a2) (va_A [(h0, .inr (0, [.int cp, .int cq, .long cs, .int cn, .int dp, .int dq, .int dg, .ref h1, .ref h2])), (h1, .inl (a1, 8, .inl se)), (h2, .inl (a2, 8, .inl pu))] sz)) (vx_X (fun _ : dk_S => True) (fun E9 u9 t9 => (u9 = (cp, cq, cs, cn, dp, dq, dg, se, pu) ∧ E9 = "java/lang/IllegalStateException" ∧ dk_ffit dp dq y = (1, 0)) ∧ dk_B dC dI (va_A [(h0, .inr (0, [.int cp, .int cq, .long cs, .int cn, .int dp, .int dq, .int dg, .ref h1, .ref h2])), (h1, .inl (a1, 8, .inl se)), (h2, .inl (a2, 8, .inl pu))] sz) h0 h1 h2 a1 a2 u9 t9) (va_A [(h0, .inr (0, [.int cp, .int cq, .long cs, .int cn, .int dp, .int dq, .int dg, .ref h1, .ref h2])), (h1, .inl (a1, 8, .inl se)), (h2, .inl (a2, 8, .inl pu))] sz)) 1 6 (va_A [(h0, .inr (0, [.int cp, .int cq, .long cs, .int cn, .int dp, .int dq, .int dg, .ref h1, .ref h2])), (h1, .inl (a1, 8, .inl se)), (h2, .inl (a2, 8, .inl pu))] sz) := by
  refine vx_ofW (cc := cX0_fits) (maxL := 2) (ret := (some .boolean)) (by decide) rfl ?_
  intro p e s m args below meth c s₁ B hml hEx hv
  obtain ⟨rfl, hsz, hP, hK, hD0, hE⟩ := hv
  have hx := B.exec
  have hb := B.bytes
  have hr := B.returns
  have hts := atoms_spec (ws := wsX0_fits) B.pre
  have hown : s.vm.findClass RX0 = some m.cls := findClass_of_methodNamed B.named
  have hlocks := B.notSynchronized
  subst hsz
  have hD := hD0.self (sz := s.heap.size)
  generalize hAe : va_A [(h0, .inr (0, [.int cp, .int cq, .long cs, .int cn, .int dp, .int dq, .int dg, .ref h1, .ref h2])), (h1, .inl (a1, 8, .inl se)), (h2, .inl (a2, 8, .inl pu))] s.heap.size = A at hD hE ⊢
  have hA : ∀ q : Nat, s.heap.size ≤ q → A q := fun q h => by rw [← hAe]; exact Or.inr h
  have hS : va_S A s.heap s.heap [] := va_S.rf
  have hl := lv_entry ([.ref h0, .int y]) (n := 2) (Nat.le_of_ble_eq_true rfl)
  rw [lg_entry_eq]
  generalize (lg_sl ([.ref h0, .int y]) ++ List.replicate (2 - (lg_sl ([.ref h0, .int y])).length) Slot.unset).toArray = ls at hl ⊢
  have hl : lv_has ls 2 [(0, .ref h0), (1, .int y)] := hl
  refine lv_aload_n hx hb dX0_fits_0 rfl (lv_at hl 0 rfl) ?_
  have hPc := hP.sub (ws' := [(h0, .inr (0, [.int cp, .int cq, .long cs, .int cn, .int dp, .int dq, .int dg, .ref h1, .ref h2])), (h1, .inl (a1, 8, .inl se)), (h2, .inl (a2, 8, .inl pu))]) [0, 1, 2] rfl
  have hDc := hD.sub (ws' := [(h0, .inr (0, [.int cp, .int cq, .long cs, .int cn, .int dp, .int dq, .int dg, .ref h1, .ref h2])), (h1, .inl (a1, 8, .inl se)), (h2, .inl (a2, 8, .inl pu))]) [0, 1, 2] (by decide) rfl
  have hKc := hK.sub (tys' := [(a1, .int), (a2, .int)]) [0, 1] rfl
  have hFc := va_free (wc := [(h0, .inr (0, [.int cp, .int cq, .long cs, .int cn, .int dp, .int dq, .int dg, .ref h1, .ref h2])), (h1, .inl (a1, 8, .inl se)), (h2, .inl (a2, 8, .inl pu))]) hD hS hA [0, 1, 2] rfl
  refine vx_callv (vx_runV (As := []) (rest := []) ⟨hx, hb, hml, hown, hts⟩ (dk_c_requireDomain l hl9 dC dI h0 h1 h2 a1 a2 cp cq cs cn dp dq dg se pu  _) (cwV 0 hts gX0_fits_X0_requireDomain rfl rfl rfl (by decide +kernel) ⟨Nat.le_of_ble_eq_true rfl, Nat.le_of_ble_eq_true rfl⟩) ⟨fun a U g mk q => by obtain ⟨q0, q1, qP, qK, qD, qE⟩ := q; exact ⟨q0, q1, qP, va_K.moved (u := U) (U := U.calling g mk a) (Vm.Alike.refl U.vm) qK, qD, qE.blind⟩, va_recv hKc hPc (ci := 0) (q0 := 0) rfl rfl, fun U hU hW => ⟨rfl, by rw [hU], by rw [hU]; exact hPc, va_K.moved hW.alike hKc, hDc.weaken (fun _ _ _ _ => trivial), hE.go hS hFc hU hW⟩⟩ rfl rfl hl.1 rfl (lv_room (Nat.le_of_ble_eq_true rfl)) dX0_fits_1 ⟨Nat.le_of_ble_eq_true rfl, Nat.le_of_ble_eq_true rfl⟩) hS (fun q _ h => hFc q h) hFc (fun q _ h => hFc q h) (fun E9 ce q9 u t H1 locs ht hvm hw hB hz1 hk1 hS hce hcv hcl => ?_) (fun u t H1 locs ht hvm hw hB hz1 hk1 hS => ?_)
  · obtain ⟨hEc, hB⟩ := hB
    obtain ⟨rfl, hE9, hnd⟩ := hEc
    obtain ⟨hP1, hK1, hD1⟩ := hB
    rw [ht] at hP1
    have hK1 := va_K.moved hvm.symm hK1
    obtain ⟨hP, hD⟩ := va_join (wr := []) (w1 := [(h0, .inr (0, [.int cp, .int cq, .long cs, .int cn, .int dp, .int dq, .int dg, .ref h1, .ref h2])), (h1, .inl (a1, 8, .inl se)), (h2, .inl (a2, 8, .inl pu))]) hP hD [0, 1, 2] [] rfl rfl (by decide) (by decide) hk1 hFc hP1 hD1
    have hK := (hK.sub (tys' := []) [] rfl).app hK1
    generalize H1 = H at hP hS hce ⊢
    have hP : va_P (dC, dI) vwCl [(h0, .inr (0, [.int cp, .int cq, .long cs, .int cn, .int dp, .int dq, .int dg, .ref h1, .ref h2])), (h1, .inl (a1, 8, .inl se)), (h2, .inl (a2, 8, .inl pu))] H := hP
    have hD : va_D A [(h0, .inr (0, [.int cp, .int cq, .long cs, .int cn, .int dp, .int dq, .int dg, .ref h1, .ref h2])), (h1, .inl (a1, 8, .inl se)), (h2, .inl (a2, 8, .inl pu))] := hD
    have hK : va_K (dC, dI) vwCl [(a1, .int), (a2, .int)] s := hK
    exact vx_out (E := E9) (fun x hx => (hEx x hx).elim) hlocks hce hcv hcl (fun t ht ha => ⟨(cp, cq, cs, cn, dp, dq, dg, se, pu), trivial, ⟨⟨rfl, hE9, by rw [dk_ffit, if_pos hnd]⟩, by rw [ht]; exact hP, va_K.moved ha hK, hD⟩, hS.F ht⟩) hS.2.2 (Nat.le_of_ble_eq_true rfl) (Nat.le_of_ble_eq_true rfl)
  obtain ⟨rfl, hdp⟩ := hw
  obtain ⟨P, Q9, G, hP9, hQ9, hdom, rfl, rfl, rfl⟩ := hI.resolve_left (fun q => hdp q.1)
  obtain ⟨hs1, hs2, hs3, hs4, hs5, hs6⟩ := dk_dom_sz hP9 hdom
  obtain ⟨hP1, hK1, hD1⟩ := hB
  rw [ht] at hP1
  have hK1 := va_K.moved hvm.symm hK1
  obtain ⟨hP, hD⟩ := va_join (wr := []) (w1 := [(h0, .inr (0, [.int cp, .int cq, .long cs, .int cn, .int (nI P), .int (nI Q9), .int (nI G), .ref h1, .ref h2])), (h1, .inl (a1, 8, .inl se)), (h2, .inl (a2, 8, .inl pu))]) hP hD [0, 1, 2] [] rfl rfl (by decide) (by decide) hk1 hFc hP1 hD1
  have hK := (hK.sub (tys' := []) [] rfl).app hK1
  generalize H1 = H at hP hS ⊢
  have hP : va_P (dC, dI) vwCl [(h0, .inr (0, [.int cp, .int cq, .long cs, .int cn, .int (nI P), .int (nI Q9), .int (nI G), .ref h1, .ref h2])), (h1, .inl (a1, 8, .inl se)), (h2, .inl (a2, 8, .inl pu))] H := hP
  have hD : va_D A [(h0, .inr (0, [.int cp, .int cq, .long cs, .int cn, .int (nI P), .int (nI Q9), .int (nI G), .ref h1, .ref h2])), (h1, .inl (a1, 8, .inl se)), (h2, .inl (a2, 8, .inl pu))] := hD
  have hK : va_K (dC, dI) vwCl [(a1, .int), (a2, .int)] s := hK
  refine lv_aload_n hx hb dX0_fits_4 rfl (lv_at hl 0 rfl) ?_
  refine lv_iload_n hx hb dX0_fits_5 rfl (lv_at hl 1 rfl) ?_
  have hPc := hP.sub (ws' := [(h0, .inr (0, [.int cp, .int cq, .long cs, .int cn, .int (nI P), .int (nI Q9), .int (nI G), .ref h1, .ref h2])), (h1, .inl (a1, 8, .inl se)), (h2, .inl (a2, 8, .inl pu))]) [0, 1, 2] rfl
  have hKc := hK.sub (tys' := [(a1, .int), (a2, .int)]) [0, 1] rfl
  refine vp_callSi (W.runV (As := [.int y]) (rest := []) ⟨hx, hb, hml, hown, hts⟩ (dk_c_isPeer l dC dI h0 h1 h2 a1 a2 cp cq cs cn (nI P) (nI Q9) (nI G) se pu y) (cwV 1 hts gX0_fits_X0_isPeer rfl rfl rfl (by decide +kernel) ⟨Nat.le_of_ble_eq_true rfl, Nat.le_of_ble_eq_true rfl⟩) ⟨fun a U g mk q => by obtain ⟨q0, qP, qK⟩ := q; exact ⟨q0, qP, va_K.moved (u := U) (U := U.calling g mk a) (Vm.Alike.refl U.vm) qK⟩, va_recv hKc hPc (ci := 0) (q0 := 0) rfl rfl, fun U hU hW => ⟨rfl, by rw [hU]; exact hPc, va_K.moved hW.alike hKc⟩⟩ rfl rfl hl.1 rfl (lv_room (Nat.le_of_ble_eq_true rfl)) dX0_fits_6 ⟨Nat.le_of_ble_eq_true rfl, Nat.le_of_ble_eq_true rfl⟩) (fun r_6 hr_6 => ?_)
  subst hr_6
  refine lv_if_eq (tgt := 32) hx hb dX0_fits_9 (by decide) (fun c_9 => ?_) (fun c_9 => ?_)
  · have hno : ¬ (dk_pe y (nI P) ∧ dk_pw y (nI Q9) (nI P) = 1) := fun q => by
      rw [if_pos q.1] at c_9
      exact absurd c_9 (by decide)
    refine lv_iconst (v := 0) hx hb dX0_fits_32 (by decide) ?_
    exact vx_ret (W.zret (v := 0) (ty := .boolean) hx hb hr rfl (fun t ht hW => ⟨⟨0, (cp, cq, cs, cn, nI P, nI Q9, nI G, se, pu), rfl, ⟨rfl, by rw [dk_ffit, if_neg hdp, if_neg hno]⟩, by rw [ht]; exact hP, va_K.moved hW.alike hK, hD⟩, hS.F ht⟩) hS.2.2 dX0_fits_33)
  · have hpe : dk_pe y (nI P) := by
      by_cases q : dk_pe y (nI P)
      · exact q
      · exact absurd (if_neg q) c_9
    obtain ⟨y9, hy1, hy2, rfl⟩ := (dk_pe_of (by omega) hP9).mp hpe
    refine lv_iload_n hx hb dX0_fits_12 rfl (lv_at hl 1 rfl) ?_
    refine lv_aload_n hx hb dX0_fits_13 rfl (lv_at hl 0 rfl) ?_
    refine va_get (D := (dC, dI)) (ci := 0) (v := .int (nI Q9)) (C := RX0) (T := TX0) (N := 9) hx hb hts (by decide +kernel) hown hK hP 0 rfl rfl 5 (by decide) (hts (.fieldLink RX0 66 "DomainKeys" "domainQ" "I") (by decide +kernel)) (fun _ h9 => h9) rfl dX0_fits_14 ?_
    refine lv_aload_n hx hb dX0_fits_17 rfl (lv_at hl 0 rfl) ?_
    refine va_get (D := (dC, dI)) (ci := 0) (v := .int (nI P)) (C := RX0) (T := TX0) (N := 9) hx hb hts (by decide +kernel) hown hK hP 0 rfl rfl 4 (by decide) (hts (.fieldLink RX0 63 "DomainKeys" "domainP" "I") (by decide +kernel)) (fun _ h9 => h9) rfl dX0_fits_18 ?_
    refine vp_callSi (W.runS (As := [.int (nI y9), .int (nI Q9), .int (nI P)]) (rest := []) ⟨hx, hb, hml, hown, hts⟩ (dk_c_power l y9 Q9 P (by omega) hQ9 (by omega) hP9) (va_cwS 3 hts gX0_fits_X0_power rfl rfl rfl (by decide +kernel) ⟨Nat.le_of_ble_eq_true rfl, Nat.le_of_ble_eq_true rfl⟩) ⟨fun _ _ _ _ q9 => q9, fun U hU hW => ⟨rfl, trivial⟩⟩ rfl rfl hl.1 rfl (lv_room (Nat.le_of_ble_eq_true rfl)) dX0_fits_21 ⟨Nat.le_of_ble_eq_true rfl, Nat.le_of_ble_eq_true rfl⟩) (fun r_21 hr_21 => ?_)
    subst hr_21
    refine lv_iconst (v := 1) hx hb dX0_fits_24 (by decide) ?_
    refine lv_icmp_ne (tgt := 32) hx hb dX0_fits_25 (by decide) (fun c_25 => ?_) (fun c_25 => ?_)
    · have hno : ¬ (dk_pe (nI y9) (nI P) ∧ dk_pw (nI y9) (nI Q9) (nI P) = 1) := fun q => by
        rw [dk_pw_nI (by omega) hQ9 hP9] at q
        exact c_25 q.2
      refine lv_iconst (v := 0) hx hb dX0_fits_32 (by decide) ?_
      exact vx_ret (W.zret (v := 0) (ty := .boolean) hx hb hr rfl (fun t ht hW => ⟨⟨0, (cp, cq, cs, cn, nI P, nI Q9, nI G, se, pu), rfl, ⟨rfl, by rw [dk_ffit, if_neg hdp, if_neg hno]⟩, by rw [ht]; exact hP, va_K.moved hW.alike hK, hD⟩, hS.F ht⟩) hS.2.2 dX0_fits_33)
    · have hyes : dk_pe (nI y9) (nI P) ∧ dk_pw (nI y9) (nI Q9) (nI P) = 1 := ⟨hpe, by rw [dk_pw_nI (by omega) hQ9 hP9]; exact c_25⟩
      refine lv_iconst (v := 1) hx hb dX0_fits_28 (by decide) ?_
      refine lv_goto (tgt := 33) hx hb dX0_fits_29 (by decide) ?_
      exact vx_ret (W.zret (v := 1) (ty := .boolean) hx hb hr rfl (fun t ht hW => ⟨⟨1, (cp, cq, cs, cn, nI P, nI Q9, nI G, se, pu), rfl, ⟨rfl, by rw [dk_ffit, if_neg hdp, if_pos hyes]⟩, by rw [ht]; exact hP, va_K.moved hW.alike hK, hD⟩, hS.F ht⟩) hS.2.2 dX0_fits_33)
end
section
set_option maxHeartbeats 4000000 in
set_option maxRecDepth 100000 in
theorem dk_c_init (l : Launch) (dC : Nat → ClassId) (dI : Nat → Nat → Nat) (h0 : Nat) (sz : Nat) : Met l yX0_init wsX0_init ({ frames := 1, cells := 2, slots := 16, locals := 12 }) (va_Pc [.ref h0] (fun U => U.heap.size = sz ∧ va_P (dC, dI) vwCl [(h0, .inr (0, [.int 0, .int 0, .long 0, .int 0, .int 0, .int 0, .int 0, .null, .null]))] U.heap ∧ va_K (dC, dI) vwCl [] U ∧ va_D (fun _ => True) [(h0, .inr (0, [.int 0, .int 0, .long 0, .int 0, .int 0, .int 0, .int 0, .null, .null]))])) (va_Qv (fun u9 : dk_S => u9 = (0, 0, 0, 0, 0, 0, 0, (fun _ => 0), (fun _ => 0))) (fun u9 t9 => ∃ (h1 h2 : Nat) (a1 a2 : ClassId), dk_B dC dI (va_A [(h0, .inr (0, [.int 0, .int 0, .long 0, .int 0, .int 0, .int 0, .int 0, .null, .null]))] sz) h0 h1 h2 a1 a2 u9 t9) (va_A [(h0, .inr (0, [.int 0, .int 0, .long 0, .int 0, .int 0, .int 0, .int 0, .null, .null]))] sz)) 2 16 (va_A [(h0, .inr (0, [.int 0, .int 0, .long 0, .int 0, .int 0, .int 0, .int 0, .null, .null]))] sz) := by
  refine Met.ofW (cc := cX0_init) (maxL := 1) (ret := none) (by decide) rfl ?_
  intro p e s m args below meth c s₁ B hml hv
  obtain ⟨rfl, hsz, hP, hK, hD0⟩ := hv
  have hx := B.exec
  have hb := B.bytes
  have hr := B.returns
  have hts := atoms_spec (ws := wsX0_init) B.pre
  have hown : s.vm.findClass RX0 = some m.cls := findClass_of_methodNamed B.named
  have hlocks := B.notSynchronized
  have hin : meth.name = "<init>" := (name_of_methodNamed B.named B.method).1
  subst hsz
  have hD := hD0.self (sz := s.heap.size)
  generalize hAe : va_A [(h0, .inr (0, [.int 0, .int 0, .long 0, .int 0, .int 0, .int 0, .int 0, .null, .null]))] s.heap.size = A at hD ⊢
  have hA : ∀ q : Nat, s.heap.size ≤ q → A q := fun q h => by rw [← hAe]; exact Or.inr h
  have hS : va_S A s.heap s.heap [] := va_S.rf
  have hl := lv_entry ([.ref h0]) (n := 1) (Nat.le_of_ble_eq_true rfl)
  rw [lg_entry_eq]
  generalize (lg_sl ([.ref h0]) ++ List.replicate (1 - (lg_sl ([.ref h0])).length) Slot.unset).toArray = ls at hl ⊢
  have hl : lv_has ls 1 [(0, .ref h0)] := hl
  refine lv_aload_n hx hb dX0_init_0 rfl (lv_at hl 0 rfl) ?_
  refine W.objInit hx hb hown (hts (.methodLink RX0 1 objectInit) (by decide +kernel)) (hts (.instanceMethod objectInit) (by decide +kernel)) (hts _ (List.mem_cons_of_mem _ (List.mem_append_left _ (List.mem_of_getElem? (i := 2) rfl)))) rfl (by rw [hml]; exact hl.1) rfl dX0_init_1 (Nat.le_of_ble_eq_true rfl) (Nat.le_of_ble_eq_true rfl) ?_
  refine W.eq (g2 := F0 m 4 ls []) rfl ?_
  refine lv_aload_n hx hb dX0_init_4 rfl (lv_at hl 0 rfl) ?_
  refine lv_bipush (v := 8) hx hb dX0_init_5 (by decide) ?_
  refine va_newa (atype := .int) (N' := 8) (a0 := (8, .inl (fun _ => 0))) (ty := .int) (n := 8) hx hb (hts (.arrayClass .int) (by decide +kernel)) rfl hK hP hD hS hA (fun _ => rfl) (by decide) (by decide) (by decide) (Nat.le_of_ble_eq_true rfl) (Nat.le_of_ble_eq_true rfl) dX0_init_7 (fun q_7 cA_7 H hK hP hD hS => ?_)
  have hP : va_P (dC, dI) vwCl [(h0, .inr (0, [.int 0, .int 0, .long 0, .int 0, .int 0, .int 0, .int 0, .null, .null])), (q_7, .inl (cA_7, 8, .inl (fun _ => 0)))] H := hP
  have hD : va_D A [(h0, .inr (0, [.int 0, .int 0, .long 0, .int 0, .int 0, .int 0, .int 0, .null, .null])), (q_7, .inl (cA_7, 8, .inl (fun _ => 0)))] := hD
  have hK : va_K (dC, dI) vwCl [(cA_7, .int)] s := hK
  refine W.widen (k := 1) (n := 8) (Nat.le_of_ble_eq_true rfl) (Nat.le_of_ble_eq_true rfl) ?_
  refine va_putF (D := (dC, dI)) (ci := 0) (v := .ref q_7) (ty := .array .int) (C := RX0) (T := TX0) (N := 9) hx hb hts (by decide +kernel) tyX0 tyX0_ok nmX0 hown hK hP hD hS 0 rfl rfl 7 (by decide) (hts (.fieldLink RX0 9 "DomainKeys" "secrets" "[I") (by decide +kernel)) (fun _ h9 => h9) rfl hin rfl (by decide +kernel) rfl rfl (Nat.le_of_ble_eq_true rfl) dX0_init_9 (fun H locs hP hD hS => ?_)
  have hP : va_P (dC, dI) vwCl [(h0, .inr (0, [.int 0, .int 0, .long 0, .int 0, .int 0, .int 0, .int 0, .ref q_7, .null])), (q_7, .inl (cA_7, 8, .inl (fun _ => 0)))] H := hP
  have hD : va_D A [(h0, .inr (0, [.int 0, .int 0, .long 0, .int 0, .int 0, .int 0, .int 0, .ref q_7, .null])), (q_7, .inl (cA_7, 8, .inl (fun _ => 0)))] := hD
  refine lv_aload_n hx hb dX0_init_12 rfl (lv_at hl 0 rfl) ?_
  refine lv_bipush (v := 8) hx hb dX0_init_13 (by decide) ?_
  refine va_newa (atype := .int) (N' := 8) (a0 := (8, .inl (fun _ => 0))) (ty := .int) (n := 8) hx hb (hts (.arrayClass .int) (by decide +kernel)) rfl hK hP hD hS hA (fun _ => rfl) (by decide) (by decide) (by decide) (Nat.le_of_ble_eq_true rfl) (Nat.le_of_ble_eq_true rfl) dX0_init_15 (fun q_15 cA_15 H hK hP hD hS => ?_)
  have hP : va_P (dC, dI) vwCl [(h0, .inr (0, [.int 0, .int 0, .long 0, .int 0, .int 0, .int 0, .int 0, .ref q_7, .null])), (q_7, .inl (cA_7, 8, .inl (fun _ => 0))), (q_15, .inl (cA_15, 8, .inl (fun _ => 0)))] H := hP
  have hD : va_D A [(h0, .inr (0, [.int 0, .int 0, .long 0, .int 0, .int 0, .int 0, .int 0, .ref q_7, .null])), (q_7, .inl (cA_7, 8, .inl (fun _ => 0))), (q_15, .inl (cA_15, 8, .inl (fun _ => 0)))] := hD
  have hK : va_K (dC, dI) vwCl [(cA_7, .int), (cA_15, .int)] s := hK
  refine W.widen (k := 2) (n := 16) (Nat.le_of_ble_eq_true rfl) (Nat.le_of_ble_eq_true rfl) ?_
  refine va_putF (D := (dC, dI)) (ci := 0) (v := .ref q_15) (ty := .array .int) (C := RX0) (T := TX0) (N := 9) hx hb hts (by decide +kernel) tyX0 tyX0_ok nmX0 hown hK hP hD hS 0 rfl rfl 8 (by decide) (hts (.fieldLink RX0 13 "DomainKeys" "publicNumbers" "[I") (by decide +kernel)) (fun _ h9 => h9) rfl hin rfl (by decide +kernel) rfl rfl (Nat.le_of_ble_eq_true rfl) dX0_init_17 (fun H locs hP hD hS => ?_)
  have hP : va_P (dC, dI) vwCl [(h0, .inr (0, [.int 0, .int 0, .long 0, .int 0, .int 0, .int 0, .int 0, .ref q_7, .ref q_15])), (q_7, .inl (cA_7, 8, .inl (fun _ => 0))), (q_15, .inl (cA_15, 8, .inl (fun _ => 0)))] H := hP
  have hD : va_D A [(h0, .inr (0, [.int 0, .int 0, .long 0, .int 0, .int 0, .int 0, .int 0, .ref q_7, .ref q_15])), (q_7, .inl (cA_7, 8, .inl (fun _ => 0))), (q_15, .inl (cA_15, 8, .inl (fun _ => 0)))] := hD
  exact W.vret hx hb hr (fun t ht hW => ⟨⟨(0, 0, 0, 0, 0, 0, 0, (fun _ => 0), (fun _ => 0)), rfl, rfl, q_7, q_15, cA_7, cA_15, by rw [ht]; exact hP, va_K.moved hW.alike hK, hD⟩, hS.F ht⟩) hS.2.2 dX0_init_20

/-- an array whose first n places are 0 -/
def dk_clr (n : Nat) (f : Nat → Int32) : Nat → Int32 := fun j => if j < n then 0 else f j
theorem dk_clr_0 (f : Nat → Int32) : dk_clr 0 f = f := funext fun j => if_neg (Nat.not_lt_zero j)
theorem dk_clr_s (f : Nat → Int32) (n : Nat) : upd (dk_clr n f) n 0 = dk_clr (n + 1) f := funext fun j => by
  unfold upd dk_clr
  by_cases h : j = n
  · rw [if_pos h, if_pos (by omega)]
  · rw [if_neg h]
    by_cases h2 : j < n
    · rw [if_pos h2, if_pos (by omega)]
    · rw [if_neg h2, if_neg (by omega)]

set_option maxHeartbeats 4000000 in
set_option maxRecDepth 100000 in
theorem dk_adopt_loop {p : Program} {l : Launch} {e : Env} {s : State} {m : MethodId} {args : Array Value} {below : List Frame} {meth : Method} {c : Code} {Q : State → Prop} {A : Nat → Prop} (dC : Nat → ClassId) (dI : Nat → Nat → Nat) (h0 h1 h2 : Nat) (a1 a2 : ClassId) (cp cq : Int32) (cs : Int64) (cn dp dq dg : Int32) (se pu : Nat → Int32) (hx : p.tables.exec = Jvm.exec) (hb : c.code = cX0_adopt) (hml : c.maxLocals = 5) (hown : s.vm.findClass RX0 = some m.cls) (hts : ∀ w ∈ wsX0_adopt, w.before args s = true) (hA : ∀ q : Nat, s.heap.size ≤ q → A q) (hK : va_K (dC, dI) vwCl [(a1, .int), (a2, .int)] s) (kk : ∀ (H : Heap) (locs : List Loc) (ls : Array Slot), va_P (dC, dI) vwCl [(h0, .inr (0, [.int cp, .int cq, .long cs, .int cn, .int dp, .int dq, .int dg, .ref h1, .ref h2])), (h1, .inl (a1, 8, .inl (dk_clr 8 se))), (h2, .inl (a2, 8, .inl (dk_clr 8 pu)))] H → va_D A [(h0, .inr (0, [.int cp, .int cq, .long cs, .int cn, .int dp, .int dq, .int dg, .ref h1, .ref h2])), (h1, .inl (a1, 8, .inl (dk_clr 8 se))), (h2, .inl (a2, 8, .inl (dk_clr 8 pu)))] → va_S A s.heap H locs → W p l e (headSpec wsX0_adopt ({ frames := 6, cells := 1, slots := 6, locals := 82 })).room s m args below meth c H locs 0 0 Q (F0 m 56 ls [])) :
    ∀ (n i9 : Nat) (H : Heap) (locs : List Loc) (ls : Array Slot), 9 ≤ i9 + n → i9 ≤ 8 → va_P (dC, dI) vwCl [(h0, .inr (0, [.int cp, .int cq, .long cs, .int cn, .int dp, .int dq, .int dg, .ref h1, .ref h2])), (h1, .inl (a1, 8, .inl (dk_clr i9 se))), (h2, .inl (a2, 8, .inl (dk_clr i9 pu)))] H → va_D A [(h0, .inr (0, [.int cp, .int cq, .long cs, .int cn, .int dp, .int dq, .int dg, .ref h1, .ref h2])), (h1, .inl (a1, 8, .inl (dk_clr i9 se))), (h2, .inl (a2, 8, .inl (dk_clr i9 pu)))] → va_S A s.heap H locs → lv_has ls 5 [(0, .ref h0), (4, .int (nI i9))] → W p l e (headSpec wsX0_adopt ({ frames := 6, cells := 1, slots := 6, locals := 82 })).room s m args below meth c H locs 0 0 Q (F0 m 37 ls []) := by
  intro n
  induction n with
  | zero =>
    intro i9 H locs ls g1 g2
    exact absurd g1 (by omega)
  | succ n ih =>
    intro i9 H locs ls g1 g2 hP hD hS hl
    refine lv_iload hx hb dX0_adopt_37 (lv_at hl 1 rfl) ?_
    refine lv_bipush (v := 8) hx hb dX0_adopt_39 (by decide) ?_
    refine lv_icmp_ge (tgt := 56) hx hb dX0_adopt_41 (by decide) (fun c_41 => ?_) (fun c_41 => ?_)
    · have hi9 : i9 = 8 := by
        have := (nI_leI (a := 8) (b := i9) (by omega) (by omega)).mp c_41
        omega
      subst hi9
      exact kk H locs ls hP hD hS
    · have hi9 : i9 < 8 := by
        rcases Nat.lt_or_ge i9 8 with q | q
        · exact q
        · exact absurd ((nI_leI (a := 8) (b := i9) (by omega) (by omega)).mpr q) c_41
      refine lv_aload_n hx hb dX0_adopt_44 rfl (lv_at hl 0 rfl) ?_
      refine lv_iload hx hb dX0_adopt_45 (lv_at hl 1 rfl) ?_
      have hPc := hP.sub (ws' := [(h0, .inr (0, [.int cp, .int cq, .long cs, .int cn, .int dp, .int dq, .int dg, .ref h1, .ref h2])), (h1, .inl (a1, 8, .inl (dk_clr i9 se))), (h2, .inl (a2, 8, .inl (dk_clr i9 pu)))]) [0, 1, 2] rfl
      have hDc := hD.sub (ws' := [(h0, .inr (0, [.int cp, .int cq, .long cs, .int cn, .int dp, .int dq, .int dg, .ref h1, .ref h2])), (h1, .inl (a1, 8, .inl (dk_clr i9 se))), (h2, .inl (a2, 8, .inl (dk_clr i9 pu)))]) [0, 1, 2] (by decide) rfl
      have hKc := hK.sub (tys' := [(a1, .int), (a2, .int)]) [0, 1] rfl
      have hFc := va_free (wc := [(h0, .inr (0, [.int cp, .int cq, .long cs, .int cn, .int dp, .int dq, .int dg, .ref h1, .ref h2])), (h1, .inl (a1, 8, .inl (dk_clr i9 se))), (h2, .inl (a2, 8, .inl (dk_clr i9 pu)))]) hD hS hA [0, 1, 2] rfl
      refine va_callv (va_runV (As := [.int (nI i9)]) (rest := []) ⟨hx, hb, hml, hown, hts⟩ (dk_c_clearSlot l dC dI h0 h1 h2 a1 a2 cp cq cs cn dp dq dg (dk_clr i9 se) (dk_clr i9 pu) i9 hi9 _) (cwV 1 hts gX0_adopt_X0_clearSlot rfl rfl rfl (by decide +kernel) ⟨Nat.le_of_ble_eq_true rfl, Nat.le_of_ble_eq_true rfl⟩) ⟨fun a U g mk q => by obtain ⟨q0, q1, qP, qK, qD⟩ := q; exact ⟨q0, q1, qP, va_K.moved (u := U) (U := U.calling g mk a) (Vm.Alike.refl U.vm) qK, qD⟩, va_recv hKc hPc (ci := 0) (q0 := 0) rfl rfl, fun U hU hW => ⟨rfl, by rw [hU], by rw [hU]; exact hPc, va_K.moved hW.alike hKc, hDc.weaken (fun _ _ _ _ => trivial)⟩⟩ rfl rfl hl.1 rfl (lv_room (Nat.le_of_ble_eq_true rfl)) dX0_adopt_47 ⟨Nat.le_of_ble_eq_true rfl, Nat.le_of_ble_eq_true rfl⟩) hS (fun q _ h => hFc q h) hFc (fun u t H1 locs ht hvm hw hB hz1 hk1 hS => ?_)
      subst hw
      obtain ⟨hP1, hK1, hD1⟩ := hB
      rw [ht] at hP1
      have hK1 := va_K.moved hvm.symm hK1
      obtain ⟨hP, hD⟩ := va_join (wr := []) (w1 := [(h0, .inr (0, [.int cp, .int cq, .long cs, .int cn, .int dp, .int dq, .int dg, .ref h1, .ref h2])), (h1, .inl (a1, 8, .inl (upd (dk_clr i9 se) i9 0))), (h2, .inl (a2, 8, .inl (upd (dk_clr i9 pu) i9 0)))]) hP hD [0, 1, 2] [] rfl rfl (by decide) (by decide) hk1 hFc hP1 hD1
      have hK := (hK.sub (tys' := []) [] rfl).app hK1
      generalize H1 = H at hP hS ⊢
      have hP : va_P (dC, dI) vwCl [(h0, .inr (0, [.int cp, .int cq, .long cs, .int cn, .int dp, .int dq, .int dg, .ref h1, .ref h2])), (h1, .inl (a1, 8, .inl (upd (dk_clr i9 se) i9 0))), (h2, .inl (a2, 8, .inl (upd (dk_clr i9 pu) i9 0)))] H := hP
      have hD : va_D A [(h0, .inr (0, [.int cp, .int cq, .long cs, .int cn, .int dp, .int dq, .int dg, .ref h1, .ref h2])), (h1, .inl (a1, 8, .inl (upd (dk_clr i9 se) i9 0))), (h2, .inl (a2, 8, .inl (upd (dk_clr i9 pu) i9 0)))] := hD
      have hK : va_K (dC, dI) vwCl [(a1, .int), (a2, .int)] s := hK
      refine lv_iinc (v := (nI (i9 + 1))) (lv' := [(4, .int (nI (i9 + 1))), (0, .ref h0)]) hx hb dX0_adopt_50 hl (k := 1) rfl (nI_1 i9) (by decide) rfl (fun ls hl => ?_)
      refine lv_goto (tgt := 37) hx hb dX0_adopt_53 (by decide) ?_
      rw [dk_clr_s, dk_clr_s] at hP hD
      exact ih (i9 + 1) H locs ls (by omega) (by omega) hP hD hS (lv_sub hl [1, 0] rfl)

set_option maxHeartbeats 4000000 in
set_option maxRecDepth 100000 in
theorem dk_c_adopt (l : Launch) (hl9 : l.stackTraces = false) (dC : Nat → ClassId) (dI : Nat → Nat → Nat) (h0 h1 h2 : Nat) (a1 a2 : ClassId) (cp cq : Int32) (cs : Int64) (cn dp dq dg : Int32) (se pu : Nat → Int32) (x y z : Int32) (sz : Nat) : vx_Met l yX0_adopt wsX0_adopt ({ frames := 6, cells := 1, slots := 6, locals := 82 }) (va_Pc [.ref h0, .int x, .int y, .int z] (fun U => U.heap.size = sz ∧ va_P (dC, dI) vwCl [(h0, .inr (0, [.int cp, .int cq, .long cs, .int cn, .int dp, .int dq, .int dg, .ref h1, .ref h2])), (h1, .inl (a1, 8, .inl se)), (h2, .inl (a2, 8, .inl pu))] U.heap ∧ va_K (dC, dI) vwCl [(a1, .int), (a2, .int)] U ∧ va_D (fun _ => True) [(h0, .inr (0, [.int cp, .int cq, .long cs, .int cn, .int dp, .int dq, .int dg, .ref h1, .ref h2])), (h1, .inl (a1, 8, .inl se)), (h2, .inl (a2, 8, .inl pu))] ∧ dk_E (va_A [(h0, .inr (0, [.int cp, .int cq, .long cs, .int cn, .int dp, .int dq, .int dg, .ref h1, .ref h2])), (h1, .inl (a1, 8, .inl se)), (h2, .inl (a2, 8, .inl pu))] sz) U U.heap)) (va_Qv (fun u9 : dk_S => dk_domI x y z ∧ u9 = (cp, cq, cs, cn, x, y, z, dk_clr 8 se, dk_clr 8 pu)) (dk_B dC dI (va_A [(h0, .inr (0, [.int cp, .int cq, .long cs, .int cn, .int dp, .int dq, .int dg, .ref h1, .ref h2])), (h1, .inl (a1, 8, .inl se)), (h2, .inl (a2, 8, .inl pu))] sz) h0 h1 h2 a1 a2) (va_A [(h0, .inr (0, [.int cp, .int cq, .long cs, .int cn, .int dp, .int dq, .int dg, .ref h1, .ref h2])), (h1, .inl (a1, 8, .inl se)), (h2, .inl (a2, 8, .inl pu))] sz)) (vx_X (fun _ : dk_S => True) (fun E9 u9 t9 => (u9 = (cp, cq, cs, cn, dp, dq, dg, se, pu) ∧ E9 = "java/lang/IllegalArgumentException" ∧ ¬ dk_domI x y z) ∧ dk_B dC dI (va_A [(h0, .inr (0, [.int cp, .int cq, .long cs, .int cn, .int dp, .int dq, .int dg, .ref h1, .ref h2])), (h1, .inl (a1, 8, .inl se)), (h2, .inl (a2, 8, .inl pu))] sz) h0 h1 h2 a1 a2 u9 t9) (va_A [(h0, .inr (0, [.int cp, .int cq, .long cs, .int cn, .int dp, .int dq, .int dg, .ref h1, .ref h2])), (h1, .inl (a1, 8, .inl se)), (h2, .inl (a2, 8, .inl pu))] sz)) 1 6 (va_A [(h0, .inr (0, [.int cp, .int cq, .long cs, .int cn, .int dp, .int dq, .int dg, .ref h1, .ref h2])), (h1, .inl (a1, 8, .inl se)), (h2, .inl (a2, 8, .inl pu))] sz) := by
  refine vx_ofW (cc := cX0_adopt) (maxL := 5) (ret := none) (by decide) rfl ?_
  intro p e s m args below meth c s₁ B hml hEx hv
  obtain ⟨rfl, hsz, hP, hK, hD0, hE⟩ := hv
  have hx := B.exec
  have hb := B.bytes
  have hr := B.returns
  have hts := atoms_spec (ws := wsX0_adopt) B.pre
  have hown : s.vm.findClass RX0 = some m.cls := findClass_of_methodNamed B.named
  have hlocks := B.notSynchronized
  subst hsz
  have hD := hD0.self (sz := s.heap.size)
  generalize hAe : va_A [(h0, .inr (0, [.int cp, .int cq, .long cs, .int cn, .int dp, .int dq, .int dg, .ref h1, .ref h2])), (h1, .inl (a1, 8, .inl se)), (h2, .inl (a2, 8, .inl pu))] s.heap.size = A at hD hE ⊢
  have hA : ∀ q : Nat, s.heap.size ≤ q → A q := fun q h => by rw [← hAe]; exact Or.inr h
  have hS : va_S A s.heap s.heap [] := va_S.rf
  have hl := lv_entry ([.ref h0, .int x, .int y, .int z]) (n := 5) (Nat.le_of_ble_eq_true rfl)
  rw [lg_entry_eq]
  generalize (lg_sl ([.ref h0, .int x, .int y, .int z]) ++ List.replicate (5 - (lg_sl ([.ref h0, .int x, .int y, .int z])).length) Slot.unset).toArray = ls at hl ⊢
  have hl : lv_has ls 5 [(0, .ref h0), (1, .int x), (2, .int y), (3, .int z)] := hl
  refine lv_iload_n hx hb dX0_adopt_0 rfl (lv_at hl 1 rfl) ?_
  refine lv_iload_n hx hb dX0_adopt_1 rfl (lv_at hl 2 rfl) ?_
  refine lv_iload_n hx hb dX0_adopt_2 rfl (lv_at hl 3 rfl) ?_
  refine vp_callSi (W.runS (As := [.int x, .int y, .int z]) (rest := []) ⟨hx, hb, hml, hown, hts⟩ (dk_c_isDomain l x y z) (va_cwS 3 hts gX0_adopt_X0_isDomain rfl rfl rfl (by decide +kernel) ⟨Nat.le_of_ble_eq_true rfl, Nat.le_of_ble_eq_true rfl⟩) ⟨fun _ _ _ _ q9 => q9, fun U hU hW => ⟨rfl, trivial⟩⟩ rfl rfl hl.1 rfl (lv_room (Nat.le_of_ble_eq_true rfl)) dX0_adopt_3 ⟨Nat.le_of_ble_eq_true rfl, Nat.le_of_ble_eq_true rfl⟩) (fun r_3 hr_3 => ?_)
  refine lv_if_ne (tgt := 19) hx hb dX0_adopt_6 (by decide) (fun c_6 => ?_) (fun c_6 => ?_)
  · have hyes : dk_domI x y z := by
      rcases hr_3 with ⟨-, q⟩ | ⟨q, -⟩
      · exact q
      · exact absurd q c_6
    refine lv_aload_n hx hb dX0_adopt_19 rfl (lv_at hl 0 rfl) ?_
    refine lv_iload_n hx hb dX0_adopt_20 rfl (lv_at hl 1 rfl) ?_
    refine va_put (D := (dC, dI)) (ci := 0) (v := .int x) (ty := .int) (C := RX0) (T := TX0) (N := 9) hx hb hts (by decide +kernel) tyX0 tyX0_ok nmX0 hown hK hP hD hS 0 rfl rfl 4 (by decide) (hts (.fieldLink RX0 63 "DomainKeys" "domainP" "I") (by decide +kernel)) (fun _ h9 => h9) rfl (by decide +kernel) rfl rfl (Nat.le_of_ble_eq_true rfl) dX0_adopt_21 (fun H locs hP hD hS => ?_)
    have hP : va_P (dC, dI) vwCl [(h0, .inr (0, [.int cp, .int cq, .long cs, .int cn, .int x, .int dq, .int dg, .ref h1, .ref h2])), (h1, .inl (a1, 8, .inl se)), (h2, .inl (a2, 8, .inl pu))] H := hP
    have hD : va_D A [(h0, .inr (0, [.int cp, .int cq, .long cs, .int cn, .int x, .int dq, .int dg, .ref h1, .ref h2])), (h1, .inl (a1, 8, .inl se)), (h2, .inl (a2, 8, .inl pu))] := hD
    refine lv_aload_n hx hb dX0_adopt_24 rfl (lv_at hl 0 rfl) ?_
    refine lv_iload_n hx hb dX0_adopt_25 rfl (lv_at hl 2 rfl) ?_
    refine va_put (D := (dC, dI)) (ci := 0) (v := .int y) (ty := .int) (C := RX0) (T := TX0) (N := 9) hx hb hts (by decide +kernel) tyX0 tyX0_ok nmX0 hown hK hP hD hS 0 rfl rfl 5 (by decide) (hts (.fieldLink RX0 66 "DomainKeys" "domainQ" "I") (by decide +kernel)) (fun _ h9 => h9) rfl (by decide +kernel) rfl rfl (Nat.le_of_ble_eq_true rfl) dX0_adopt_26 (fun H locs hP hD hS => ?_)
    have hP : va_P (dC, dI) vwCl [(h0, .inr (0, [.int cp, .int cq, .long cs, .int cn, .int x, .int y, .int dg, .ref h1, .ref h2])), (h1, .inl (a1, 8, .inl se)), (h2, .inl (a2, 8, .inl pu))] H := hP
    have hD : va_D A [(h0, .inr (0, [.int cp, .int cq, .long cs, .int cn, .int x, .int y, .int dg, .ref h1, .ref h2])), (h1, .inl (a1, 8, .inl se)), (h2, .inl (a2, 8, .inl pu))] := hD
    refine lv_aload_n hx hb dX0_adopt_29 rfl (lv_at hl 0 rfl) ?_
    refine lv_iload_n hx hb dX0_adopt_30 rfl (lv_at hl 3 rfl) ?_
    refine va_put (D := (dC, dI)) (ci := 0) (v := .int z) (ty := .int) (C := RX0) (T := TX0) (N := 9) hx hb hts (by decide +kernel) tyX0 tyX0_ok nmX0 hown hK hP hD hS 0 rfl rfl 6 (by decide) (hts (.fieldLink RX0 69 "DomainKeys" "domainG" "I") (by decide +kernel)) (fun _ h9 => h9) rfl (by decide +kernel) rfl rfl (Nat.le_of_ble_eq_true rfl) dX0_adopt_31 (fun H locs hP hD hS => ?_)
    have hP : va_P (dC, dI) vwCl [(h0, .inr (0, [.int cp, .int cq, .long cs, .int cn, .int x, .int y, .int z, .ref h1, .ref h2])), (h1, .inl (a1, 8, .inl se)), (h2, .inl (a2, 8, .inl pu))] H := hP
    have hD : va_D A [(h0, .inr (0, [.int cp, .int cq, .long cs, .int cn, .int x, .int y, .int z, .ref h1, .ref h2])), (h1, .inl (a1, 8, .inl se)), (h2, .inl (a2, 8, .inl pu))] := hD
    refine lv_iconst (v := 0) hx hb dX0_adopt_34 (by decide) ?_
    refine lv_istore (lv' := [(4, .int 0), (0, .ref h0), (1, .int x), (2, .int y), (3, .int z)]) hx hb dX0_adopt_35 hl (by decide) rfl (fun ls hl => ?_)
    refine dk_adopt_loop dC dI h0 h1 h2 a1 a2 cp cq cs cn x y z se pu hx hb hml hown hts hA hK (fun H locs ls hP hD hS => ?_) 9 0 H locs ls (by omega) (by omega) (by rw [dk_clr_0, dk_clr_0]; exact hP) (by rw [dk_clr_0, dk_clr_0]; exact hD) hS (lv_sub hl [1, 0] rfl)
    refine W.widen (k := 1) (n := 6) (Nat.le_of_ble_eq_true rfl) (Nat.le_of_ble_eq_true rfl) ?_
    exact vx_ret (W.vret hx hb hr (fun t ht hW => ⟨⟨(cp, cq, cs, cn, x, y, z, dk_clr 8 se, dk_clr 8 pu), rfl, ⟨hyes, rfl⟩, by rw [ht]; exact hP, va_K.moved hW.alike hK, hD⟩, hS.F ht⟩) hS.2.2 dX0_adopt_56)
  · have hno : ¬ dk_domI x y z := by
      rcases hr_3 with ⟨q, -⟩ | ⟨-, q⟩
      · rw [q] at c_6; exact absurd c_6 (by decide)
      · exact q
    obtain ⟨sa_9, hs_9⟩ := hE.2.2.2.2.1 (61, "no domain") (by decide +kernel)
    refine vx_throwS (own := RX0) (cls := "java/lang/IllegalArgumentException") (text := "no domain") (names := ["java/lang/RuntimeException", "java/lang/Exception"]) (ik := 48) (is := 61) (ic := 52) (rest := []) hx hb hl9 hown (by decide +kernel) (by decide +kernel) (hts (.classLink RX0 48 "java/lang/IllegalArgumentException") (by decide +kernel)) (hts (.initialized "java/lang/IllegalArgumentException") (by decide +kernel)) hs_9 (vx_hat (L := vx_atS RX0 52 "java/lang/IllegalArgumentException" ["java/lang/RuntimeException", "java/lang/Exception"]) (B := [.castable "java/lang/IllegalArgumentException" "java/lang/IllegalArgumentException", .declares (Bundle.initS "java/lang/RuntimeException"), .declares (Bundle.initS "java/lang/Exception"), .declares (Bundle.initS "java/lang/Throwable")]) (fun w hw => hts w ((by decide +kernel : ∀ w ∈ (vx_atS RX0 52 "java/lang/IllegalArgumentException" ["java/lang/RuntimeException", "java/lang/Exception"]).filter goodWord, w ∈ wsX0_adopt) w hw)) (by decide +kernel) (vx_c (va_Nw.use rfl (hE.2.2.1 "java/lang/IllegalArgumentException" (by decide +kernel))) (vx_c (va_Nw.use rfl (hE.2.2.2.1 "java/lang/RuntimeException" (by decide +kernel))) (vx_c (va_Nw.use rfl (hE.2.2.2.1 "java/lang/Exception" (by decide +kernel))) (vx_c (va_Nw.use rfl (hE.2.2.2.1 "java/lang/Throwable" (by decide +kernel))) (vx_n)))))) (by decide +kernel) hE.1 hE.2.1 hS (hl.1.trans hml.symm) dX0_adopt_9 dX0_adopt_12 dX0_adopt_13 dX0_adopt_15 dX0_adopt_18 (fun x hx => (hEx x hx).elim) (Nat.le_of_ble_eq_true rfl) (Nat.le_of_ble_eq_true rfl) (Nat.le_of_ble_eq_true rfl) (Nat.le_of_ble_eq_true rfl) hlocks (fun t ha hz hk => ?_) hS.2.2 (Nat.le_of_ble_eq_true rfl) (Nat.le_of_ble_eq_true rfl)
    exact ⟨(cp, cq, cs, cn, dp, dq, dg, se, pu), trivial, ⟨⟨rfl, rfl, hno⟩, hP.kept (fun k q hq => hk q.1 (hP k q hq).lt), va_K.moved ha hK, hD⟩, dk_F hS hz hk⟩

set_option maxHeartbeats 4000000 in
set_option maxRecDepth 100000 in
theorem dk_c_key (l : Launch) (hl9 : l.stackTraces = false) (dC : Nat → ClassId) (dI : Nat → Nat → Nat) (h0 h1 h2 : Nat) (a1 a2 : ClassId) (cp cq : Int32) (cs : Int64) (cn dp dq dg : Int32) (se pu : Nat → Int32) (x y : Int32) (hI : dk_ID dp dq dg) (sz : Nat) : vx_Met l yX0_key wsX0_key ({ frames := 7, cells := 2, slots := 12, locals := 102 }) (va_Pc [.ref h0, .int x, .int y] (fun U => U.heap.size = sz ∧ va_P (dC, dI) vwCl [(h0, .inr (0, [.int cp, .int cq, .long cs, .int cn, .int dp, .int dq, .int dg, .ref h1, .ref h2])), (h1, .inl (a1, 8, .inl se)), (h2, .inl (a2, 8, .inl pu))] U.heap ∧ va_K (dC, dI) vwCl [(a1, .int), (a2, .int)] U ∧ va_D (fun _ => True) [(h0, .inr (0, [.int cp, .int cq, .long cs, .int cn, .int dp, .int dq, .int dg, .ref h1, .ref h2])), (h1, .inl (a1, 8, .inl se)), (h2, .inl (a2, 8, .inl pu))] ∧ dk_E (va_A [(h0, .inr (0, [.int cp, .int cq, .long cs, .int cn, .int dp, .int dq, .int dg, .ref h1, .ref h2])), (h1, .inl (a1, 8, .inl se)), (h2, .inl (a2, 8, .inl pu))] sz) U U.heap)) (va_Qi (fun (r9 : Int32) (u9 : dk_S) => u9 = (cp, cq, cs, cn, dp, dq, dg, upd se (dk_n x) y, upd pu (dk_n x) r9) ∧ dk_fkey dp dq dg x y = (0, r9)) (dk_B dC dI (va_A [(h0, .inr (0, [.int cp, .int cq, .long cs, .int cn, .int dp, .int dq, .int dg, .ref h1, .ref h2])), (h1, .inl (a1, 8, .inl se)), (h2, .inl (a2, 8, .inl pu))] sz) h0 h1 h2 a1 a2) (va_A [(h0, .inr (0, [.int cp, .int cq, .long cs, .int cn, .int dp, .int dq, .int dg, .ref h1, .ref h2])), (h1, .inl (a1, 8, .inl se)), (h2, .inl (a2, 8, .inl pu))] sz)) (vx_X (fun _ : dk_S => True) (fun E9 u9 t9 => (u9 = (cp, cq, cs, cn, dp, dq, dg, se, pu) ∧ ((E9 = "java/lang/IllegalStateException" ∧ dk_fkey dp dq dg x y = (1, 0)) ∨ (E9 = "java/lang/IndexOutOfBoundsException" ∧ dk_fkey dp dq dg x y = (2, 0)) ∨ (E9 = "java/lang/IllegalArgumentException" ∧ dk_fkey dp dq dg x y = (3, 0)))) ∧ dk_B dC dI (va_A [(h0, .inr (0, [.int cp, .int cq, .long cs, .int cn, .int dp, .int dq, .int dg, .ref h1, .ref h2])), (h1, .inl (a1, 8, .inl se)), (h2, .inl (a2, 8, .inl pu))] sz) h0 h1 h2 a1 a2 u9 t9) (va_A [(h0, .inr (0, [.int cp, .int cq, .long cs, .int cn, .int dp, .int dq, .int dg, .ref h1, .ref h2])), (h1, .inl (a1, 8, .inl se)), (h2, .inl (a2, 8, .inl pu))] sz)) 2 12 (va_A [(h0, .inr (0, [.int cp, .int cq, .long cs, .int cn, .int dp, .int dq, .int dg, .ref h1, .ref h2])), (h1, .inl (a1, 8, .inl se)), (h2, .inl (a2, 8, .inl pu))] sz) := by
  refine vx_ofW (cc := cX0_key) (maxL := 3) (ret := (some .int)) (by decide) rfl ?_
  intro p e s m args below meth c s₁ B hml hEx hv
  obtain ⟨rfl, hsz, hP, hK, hD0, hE⟩ := hv
  have hx := B.exec
  have hb := B.bytes
  have hr := B.returns
  have hts := atoms_spec (ws := wsX0_key) B.pre
  have hown : s.vm.findClass RX0 = some m.cls := findClass_of_methodNamed B.named
  have hlocks := B.notSynchronized
  subst hsz
  have hD := hD0.self (sz := s.heap.size)
  generalize hAe : va_A [(h0, .inr (0, [.int cp, .int cq, .long cs, .int cn, .int dp, .int dq, .int dg, .ref h1, .ref h2])), (h1, .inl (a1, 8, .inl se)), (h2, .inl (a2, 8, .inl pu))] s.heap.size = A at hD hE ⊢
  have hA : ∀ q : Nat, s.heap.size ≤ q → A q := fun q h => by rw [← hAe]; exact Or.inr h
  have hS : va_S A s.heap s.heap [] := va_S.rf
  have hl := lv_entry ([.ref h0, .int x, .int y]) (n := 3) (Nat.le_of_ble_eq_true rfl)
  rw [lg_entry_eq]
  generalize (lg_sl ([.ref h0, .int x, .int y]) ++ List.replicate (3 - (lg_sl ([.ref h0, .int x, .int y])).length) Slot.unset).toArray = ls at hl ⊢
  have hl : lv_has ls 3 [(0, .ref h0), (1, .int x), (2, .int y)] := hl
  refine lv_aload_n hx hb dX0_key_0 rfl (lv_at hl 0 rfl) ?_
  have hPc := hP.sub (ws' := [(h0, .inr (0, [.int cp, .int cq, .long cs, .int cn, .int dp, .int dq, .int dg, .ref h1, .ref h2])), (h1, .inl (a1, 8, .inl se)), (h2, .inl (a2, 8, .inl pu))]) [0, 1, 2] rfl
  have hDc := hD.sub (ws' := [(h0, .inr (0, [.int cp, .int cq, .long cs, .int cn, .int dp, .int dq, .int dg, .ref h1, .ref h2])), (h1, .inl (a1, 8, .inl se)), (h2, .inl (a2, 8, .inl pu))]) [0, 1, 2] (by decide) rfl
  have hKc := hK.sub (tys' := [(a1, .int), (a2, .int)]) [0, 1] rfl
  have hFc := va_free (wc := [(h0, .inr (0, [.int cp, .int cq, .long cs, .int cn, .int dp, .int dq, .int dg, .ref h1, .ref h2])), (h1, .inl (a1, 8, .inl se)), (h2, .inl (a2, 8, .inl pu))]) hD hS hA [0, 1, 2] rfl
  refine vx_callv (vx_runV (As := []) (rest := []) ⟨hx, hb, hml, hown, hts⟩ (dk_c_requireDomain l hl9 dC dI h0 h1 h2 a1 a2 cp cq cs cn dp dq dg se pu  _) (cwV 0 hts gX0_key_X0_requireDomain rfl rfl rfl (by decide +kernel) ⟨Nat.le_of_ble_eq_true rfl, Nat.le_of_ble_eq_true rfl⟩) ⟨fun a U g mk q => by obtain ⟨q0, q1, qP, qK, qD, qE⟩ := q; exact ⟨q0, q1, qP, va_K.moved (u := U) (U := U.calling g mk a) (Vm.Alike.refl U.vm) qK, qD, qE.blind⟩, va_recv hKc hPc (ci := 0) (q0 := 0) rfl rfl, fun U hU hW => ⟨rfl, by rw [hU], by rw [hU]; exact hPc, va_K.moved hW.alike hKc, hDc.weaken (fun _ _ _ _ => trivial), hE.go hS hFc hU hW⟩⟩ rfl rfl hl.1 rfl (lv_room (Nat.le_of_ble_eq_true rfl)) dX0_key_1 ⟨Nat.le_of_ble_eq_true rfl, Nat.le_of_ble_eq_true rfl⟩) hS (fun q _ h => hFc q h) hFc (fun q _ h => hFc q h) (fun E9 ce q9 u t H1 locs ht hvm hw hB hz1 hk1 hS hce hcv hcl => ?_) (fun u t H1 locs ht hvm hw hB hz1 hk1 hS => ?_)
  · obtain ⟨hEc, hB⟩ := hB
    obtain ⟨rfl, hE9, hnd⟩ := hEc
    obtain ⟨hP1, hK1, hD1⟩ := hB
    rw [ht] at hP1
    have hK1 := va_K.moved hvm.symm hK1
    obtain ⟨hP, hD⟩ := va_join (wr := []) (w1 := [(h0, .inr (0, [.int cp, .int cq, .long cs, .int cn, .int dp, .int dq, .int dg, .ref h1, .ref h2])), (h1, .inl (a1, 8, .inl se)), (h2, .inl (a2, 8, .inl pu))]) hP hD [0, 1, 2] [] rfl rfl (by decide) (by decide) hk1 hFc hP1 hD1
    have hK := (hK.sub (tys' := []) [] rfl).app hK1
    generalize H1 = H at hP hS hce ⊢
    have hP : va_P (dC, dI) vwCl [(h0, .inr (0, [.int cp, .int cq, .long cs, .int cn, .int dp, .int dq, .int dg, .ref h1, .ref h2])), (h1, .inl (a1, 8, .inl se)), (h2, .inl (a2, 8, .inl pu))] H := hP
    have hD : va_D A [(h0, .inr (0, [.int cp, .int cq, .long cs, .int cn, .int dp, .int dq, .int dg, .ref h1, .ref h2])), (h1, .inl (a1, 8, .inl se)), (h2, .inl (a2, 8, .inl pu))] := hD
    have hK : va_K (dC, dI) vwCl [(a1, .int), (a2, .int)] s := hK
    exact vx_out (E := E9) (fun x hx => (hEx x hx).elim) hlocks hce hcv hcl (fun t ht ha => ⟨(cp, cq, cs, cn, dp, dq, dg, se, pu), trivial, ⟨⟨rfl, Or.inl ⟨hE9, by rw [dk_fkey, if_pos hnd]⟩⟩, by rw [ht]; exact hP, va_K.moved ha hK, hD⟩, hS.F ht⟩) hS.2.2 (Nat.le_of_ble_eq_true rfl) (Nat.le_of_ble_eq_true rfl)
  obtain ⟨rfl, hdp⟩ := hw
  obtain ⟨P, Q9, G, hP9, hQ9, hdom, rfl, rfl, rfl⟩ := hI.resolve_left (fun q => hdp q.1)
  obtain ⟨hs1, hs2, hs3, hs4, hs5, hs6⟩ := dk_dom_sz hP9 hdom
  obtain ⟨hP1, hK1, hD1⟩ := hB
  rw [ht] at hP1
  have hK1 := va_K.moved hvm.symm hK1
  obtain ⟨hP, hD⟩ := va_join (wr := []) (w1 := [(h0, .inr (0, [.int cp, .int cq, .long cs, .int cn, .int (nI P), .int (nI Q9), .int (nI G), .ref h1, .ref h2])), (h1, .inl (a1, 8, .inl se)), (h2, .inl (a2, 8, .inl pu))]) hP hD [0, 1, 2] [] rfl rfl (by decide) (by decide) hk1 hFc hP1 hD1
  have hK := (hK.sub (tys' := []) [] rfl).app hK1
  generalize H1 = H at hP hS ⊢
  have hP : va_P (dC, dI) vwCl [(h0, .inr (0, [.int cp, .int cq, .long cs, .int cn, .int (nI P), .int (nI Q9), .int (nI G), .ref h1, .ref h2])), (h1, .inl (a1, 8, .inl se)), (h2, .inl (a2, 8, .inl pu))] H := hP
  have hD : va_D A [(h0, .inr (0, [.int cp, .int cq, .long cs, .int cn, .int (nI P), .int (nI Q9), .int (nI G), .ref h1, .ref h2])), (h1, .inl (a1, 8, .inl se)), (h2, .inl (a2, 8, .inl pu))] := hD
  have hK : va_K (dC, dI) vwCl [(a1, .int), (a2, .int)] s := hK
  refine lv_iload_n hx hb dX0_key_4 rfl (lv_at hl 1 rfl) ?_
  refine vp_callSi (W.runS (As := [.int x]) (rest := []) ⟨hx, hb, hml, hown, hts⟩ (dk_c_isSlot l x) (va_cwS 1 hts gX0_key_X0_isSlot rfl rfl rfl (by decide +kernel) ⟨Nat.le_of_ble_eq_true rfl, Nat.le_of_ble_eq_true rfl⟩) ⟨fun _ _ _ _ q9 => q9, fun U hU hW => ⟨rfl, trivial⟩⟩ rfl rfl hl.1 rfl (lv_room (Nat.le_of_ble_eq_true rfl)) dX0_key_5 ⟨Nat.le_of_ble_eq_true rfl, Nat.le_of_ble_eq_true rfl⟩) (fun r_5 hr_5 => ?_)
  refine lv_if_ne (tgt := 21) hx hb dX0_key_8 (by decide) (fun c_8 => ?_) (fun c_8 => ?_)
  · obtain ⟨j, hj, rfl⟩ : ∃ j : Nat, j < 8 ∧ x = nI j := by
      rcases hr_5 with ⟨-, q⟩ | ⟨q, -⟩
      · exact q
      · exact absurd q c_8
    have hsl : dk_sl (nI j) := dk_sl_of.mpr ⟨j, hj, rfl⟩
    refine lv_aload_n hx hb dX0_key_21 rfl (lv_at hl 0 rfl) ?_
    refine lv_iload_n hx hb dX0_key_22 rfl (lv_at hl 2 rfl) ?_
    have hPc := hP.sub (ws' := [(h0, .inr (0, [.int cp, .int cq, .long cs, .int cn, .int (nI P), .int (nI Q9), .int (nI G), .ref h1, .ref h2])), (h1, .inl (a1, 8, .inl se)), (h2, .inl (a2, 8, .inl pu))]) [0, 1, 2] rfl
    have hKc := hK.sub (tys' := [(a1, .int), (a2, .int)]) [0, 1] rfl
    refine vp_callSi (W.runV (As := [.int y]) (rest := []) ⟨hx, hb, hml, hown, hts⟩ (dk_c_isExponent l dC dI h0 h1 h2 a1 a2 cp cq cs cn (nI P) (nI Q9) (nI G) se pu y) (cwV 1 hts gX0_key_X0_isExponent rfl rfl rfl (by decide +kernel) ⟨Nat.le_of_ble_eq_true rfl, Nat.le_of_ble_eq_true rfl⟩) ⟨fun a U g mk q => by obtain ⟨q0, qP, qK⟩ := q; exact ⟨q0, qP, va_K.moved (u := U) (U := U.calling g mk a) (Vm.Alike.refl U.vm) qK⟩, va_recv hKc hPc (ci := 0) (q0 := 0) rfl rfl, fun U hU hW => ⟨rfl, by rw [hU]; exact hPc, va_K.moved hW.alike hKc⟩⟩ rfl rfl hl.1 rfl (lv_room (Nat.le_of_ble_eq_true rfl)) dX0_key_23 ⟨Nat.le_of_ble_eq_true rfl, Nat.le_of_ble_eq_true rfl⟩) (fun r_23 hr_23 => ?_)
    subst hr_23
    refine lv_if_ne (tgt := 39) hx hb dX0_key_26 (by decide) (fun c_26 => ?_) (fun c_26 => ?_)
    · have hex : dk_ex y (nI Q9) := by
        by_cases q : dk_ex y (nI Q9)
        · exact q
        · exact absurd (if_neg q) c_26
      obtain ⟨y9, hy91, hy92, rfl⟩ := dk_ex_of hQ9 hex
      refine lv_aload_n hx hb dX0_key_39 rfl (lv_at hl 0 rfl) ?_
      refine va_get (D := (dC, dI)) (ci := 0) (v := .ref h1) (C := RX0) (T := TX0) (N := 9) hx hb hts (by decide +kernel) hown hK hP 0 rfl rfl 7 (by decide) (hts (.fieldLink RX0 9 "DomainKeys" "secrets" "[I") (by decide +kernel)) (fun _ h9 => h9) rfl dX0_key_40 ?_
      refine lv_iload_n hx hb dX0_key_43 rfl (lv_at hl 1 rfl) ?_
      refine lv_iload_n hx hb dX0_key_44 rfl (lv_at hl 2 rfl) ?_
      refine va_iast hx hb hK hP hD hS 1 0 rfl rfl (vp_in_nI hj (by decide)) dX0_key_45 (fun H locs hP hD hS => ?_)
      rw [nI_clamp (Nat.lt_trans hj (by decide))] at hP hD
      have hP : va_P (dC, dI) vwCl [(h0, .inr (0, [.int cp, .int cq, .long cs, .int cn, .int (nI P), .int (nI Q9), .int (nI G), .ref h1, .ref h2])), (h1, .inl (a1, 8, .inl (upd se j (nI y9)))), (h2, .inl (a2, 8, .inl pu))] H := hP
      have hD : va_D A [(h0, .inr (0, [.int cp, .int cq, .long cs, .int cn, .int (nI P), .int (nI Q9), .int (nI G), .ref h1, .ref h2])), (h1, .inl (a1, 8, .inl (upd se j (nI y9)))), (h2, .inl (a2, 8, .inl pu))] := hD
      refine lv_aload_n hx hb dX0_key_46 rfl (lv_at hl 0 rfl) ?_
      refine va_get (D := (dC, dI)) (ci := 0) (v := .ref h2) (C := RX0) (T := TX0) (N := 9) hx hb hts (by decide +kernel) hown hK hP 0 rfl rfl 8 (by decide) (hts (.fieldLink RX0 13 "DomainKeys" "publicNumbers" "[I") (by decide +kernel)) (fun _ h9 => h9) rfl dX0_key_47 ?_
      refine lv_iload_n hx hb dX0_key_50 rfl (lv_at hl 1 rfl) ?_
      refine lv_aload_n hx hb dX0_key_51 rfl (lv_at hl 0 rfl) ?_
      refine va_get (D := (dC, dI)) (ci := 0) (v := .int (nI G)) (C := RX0) (T := TX0) (N := 9) hx hb hts (by decide +kernel) hown hK hP 0 rfl rfl 6 (by decide) (hts (.fieldLink RX0 69 "DomainKeys" "domainG" "I") (by decide +kernel)) (fun _ h9 => h9) rfl dX0_key_52 ?_
      refine lv_iload_n hx hb dX0_key_55 rfl (lv_at hl 2 rfl) ?_
      refine lv_aload_n hx hb dX0_key_56 rfl (lv_at hl 0 rfl) ?_
      refine va_get (D := (dC, dI)) (ci := 0) (v := .int (nI P)) (C := RX0) (T := TX0) (N := 9) hx hb hts (by decide +kernel) hown hK hP 0 rfl rfl 4 (by decide) (hts (.fieldLink RX0 63 "DomainKeys" "domainP" "I") (by decide +kernel)) (fun _ h9 => h9) rfl dX0_key_57 ?_
      refine vp_callSi (W.runS (As := [.int (nI G), .int (nI y9), .int (nI P)]) (rest := [.int (nI j), .ref h2]) ⟨hx, hb, hml, hown, hts⟩ (dk_c_power l G y9 P (by omega) (by omega) (by omega) hP9) (va_cwS 3 hts gX0_key_X0_power rfl rfl rfl (by decide +kernel) ⟨Nat.le_of_ble_eq_true rfl, Nat.le_of_ble_eq_true rfl⟩) ⟨fun _ _ _ _ q9 => q9, fun U hU hW => ⟨rfl, trivial⟩⟩ rfl rfl hl.1 rfl (lv_room (Nat.le_of_ble_eq_true rfl)) dX0_key_60 ⟨Nat.le_of_ble_eq_true rfl, Nat.le_of_ble_eq_true rfl⟩) (fun r_60 hr_60 => ?_)
      subst hr_60
      refine va_iast hx hb hK hP hD hS 2 1 rfl rfl (vp_in_nI hj (by decide)) dX0_key_63 (fun H locs hP hD hS => ?_)
      rw [nI_clamp (Nat.lt_trans hj (by decide))] at hP hD
      have hP : va_P (dC, dI) vwCl [(h0, .inr (0, [.int cp, .int cq, .long cs, .int cn, .int (nI P), .int (nI Q9), .int (nI G), .ref h1, .ref h2])), (h1, .inl (a1, 8, .inl (upd se j (nI y9)))), (h2, .inl (a2, 8, .inl (upd pu j (nI (G ^ y9 % P)))))] H := hP
      have hD : va_D A [(h0, .inr (0, [.int cp, .int cq, .long cs, .int cn, .int (nI P), .int (nI Q9), .int (nI G), .ref h1, .ref h2])), (h1, .inl (a1, 8, .inl (upd se j (nI y9)))), (h2, .inl (a2, 8, .inl (upd pu j (nI (G ^ y9 % P)))))] := hD
      refine lv_aload_n hx hb dX0_key_64 rfl (lv_at hl 0 rfl) ?_
      refine va_get (D := (dC, dI)) (ci := 0) (v := .ref h2) (C := RX0) (T := TX0) (N := 9) hx hb hts (by decide +kernel) hown hK hP 0 rfl rfl 8 (by decide) (hts (.fieldLink RX0 13 "DomainKeys" "publicNumbers" "[I") (by decide +kernel)) (fun _ h9 => h9) rfl dX0_key_65 ?_
      refine lv_iload_n hx hb dX0_key_68 rfl (lv_at hl 1 rfl) ?_
      refine va_iald hx hb hK hP 2 1 rfl rfl (vp_in_nI hj (by decide)) dX0_key_69 ?_
      refine lv_topi (fun v_69 ev_69 => ?_)
      have ev_69 : v_69 = (upd pu j (nI (G ^ y9 % P))) j := ev_69.trans (congrArg (upd pu j (nI (G ^ y9 % P))) (nI_clamp (Nat.lt_trans hj (by decide))))
      subst ev_69
      refine lv_topi (fun v_69 ev_69 => ?_)
      have ev_69 : v_69 = nI (G ^ y9 % P) := ev_69.trans pk_us
      subst ev_69
      refine W.widen (k := 2) (n := 12) (Nat.le_of_ble_eq_true rfl) (Nat.le_of_ble_eq_true rfl) ?_
      exact vx_ret (W.iret (v := (nI (G ^ y9 % P))) hx hb hr (fun t ht hW => ⟨⟨nI (G ^ y9 % P), (cp, cq, cs, cn, nI P, nI Q9, nI G, (upd se j (nI y9)), (upd pu j (nI (G ^ y9 % P)))), rfl, ⟨by rw [dk_n_nI (by omega)], by rw [dk_fkey, if_neg hdp, if_neg (fun q => q hsl), if_neg (fun q => q hex), dk_pw_nI (by omega) (by omega) hP9]⟩, by rw [ht]; exact hP, va_K.moved hW.alike hK, hD⟩, hS.F ht⟩) hS.2.2 dX0_key_70)
    · have hnx : ¬ dk_ex y (nI Q9) := fun q => by
        rw [if_pos q] at c_26
        exact absurd c_26 (by decide)
      obtain ⟨sa_29, hs_29⟩ := hE.2.2.2.2.1 (91, "secret is not 1 .. q - 1") (by decide +kernel)
      refine vx_throwS (own := RX0) (cls := "java/lang/IllegalArgumentException") (text := "secret is not 1 .. q - 1") (names := ["java/lang/RuntimeException", "java/lang/Exception"]) (ik := 48) (is := 91) (ic := 52) (rest := []) hx hb hl9 hown (by decide +kernel) (by decide +kernel) (hts (.classLink RX0 48 "java/lang/IllegalArgumentException") (by decide +kernel)) (hts (.initialized "java/lang/IllegalArgumentException") (by decide +kernel)) hs_29 (vx_hat (L := vx_atS RX0 52 "java/lang/IllegalArgumentException" ["java/lang/RuntimeException", "java/lang/Exception"]) (B := [.castable "java/lang/IllegalArgumentException" "java/lang/IllegalArgumentException", .declares (Bundle.initS "java/lang/RuntimeException"), .declares (Bundle.initS "java/lang/Exception"), .declares (Bundle.initS "java/lang/Throwable")]) (fun w hw => hts w ((by decide +kernel : ∀ w ∈ (vx_atS RX0 52 "java/lang/IllegalArgumentException" ["java/lang/RuntimeException", "java/lang/Exception"]).filter goodWord, w ∈ wsX0_key) w hw)) (by decide +kernel) (vx_c (va_Nw.use rfl (hE.2.2.1 "java/lang/IllegalArgumentException" (by decide +kernel))) (vx_c (va_Nw.use rfl (hE.2.2.2.1 "java/lang/RuntimeException" (by decide +kernel))) (vx_c (va_Nw.use rfl (hE.2.2.2.1 "java/lang/Exception" (by decide +kernel))) (vx_c (va_Nw.use rfl (hE.2.2.2.1 "java/lang/Throwable" (by decide +kernel))) (vx_n)))))) (by decide +kernel) hE.1 hE.2.1 hS (hl.1.trans hml.symm) dX0_key_29 dX0_key_32 dX0_key_33 dX0_key_35 dX0_key_38 (fun x hx => (hEx x hx).elim) (Nat.le_of_ble_eq_true rfl) (Nat.le_of_ble_eq_true rfl) (Nat.le_of_ble_eq_true rfl) (Nat.le_of_ble_eq_true rfl) hlocks (fun t ha hz hk => ?_) hS.2.2 (Nat.le_of_ble_eq_true rfl) (Nat.le_of_ble_eq_true rfl)
      exact ⟨(cp, cq, cs, cn, nI P, nI Q9, nI G, se, pu), trivial, ⟨⟨rfl, Or.inr (Or.inr ⟨rfl, by rw [dk_fkey, if_neg hdp, if_neg (fun q => q hsl), if_pos hnx]⟩)⟩, hP.kept (fun k q hq => hk q.1 (hP k q hq).lt), va_K.moved ha hK, hD⟩, dk_F hS hz hk⟩
  · have hno : ¬ dk_sl x := fun q9 => by
      rcases hr_5 with ⟨q, -⟩ | ⟨-, q⟩
      · rw [q] at c_8; exact absurd c_8 (by decide)
      · exact q (dk_sl_of.mp q9)
    obtain ⟨sa_11, hs_11⟩ := hE.2.2.2.2.1 (85, "slot is not 0 .. 7") (by decide +kernel)
    refine vx_throwS (own := RX0) (cls := "java/lang/IndexOutOfBoundsException") (text := "slot is not 0 .. 7") (names := ["java/lang/RuntimeException", "java/lang/Exception"]) (ik := 83) (is := 85) (ic := 87) (rest := []) hx hb hl9 hown (by decide +kernel) (by decide +kernel) (hts (.classLink RX0 83 "java/lang/IndexOutOfBoundsException") (by decide +kernel)) (hts (.initialized "java/lang/IndexOutOfBoundsException") (by decide +kernel)) hs_11 (vx_hat (L := vx_atS RX0 87 "java/lang/IndexOutOfBoundsException" ["java/lang/RuntimeException", "java/lang/Exception"]) (B := [.castable "java/lang/IndexOutOfBoundsException" "java/lang/IndexOutOfBoundsException", .declares (Bundle.initS "java/lang/RuntimeException"), .declares (Bundle.initS "java/lang/Exception"), .declares (Bundle.initS "java/lang/Throwable")]) (fun w hw => hts w ((by decide +kernel : ∀ w ∈ (vx_atS RX0 87 "java/lang/IndexOutOfBoundsException" ["java/lang/RuntimeException", "java/lang/Exception"]).filter goodWord, w ∈ wsX0_key) w hw)) (by decide +kernel) (vx_c (va_Nw.use rfl (hE.2.2.1 "java/lang/IndexOutOfBoundsException" (by decide +kernel))) (vx_c (va_Nw.use rfl (hE.2.2.2.1 "java/lang/RuntimeException" (by decide +kernel))) (vx_c (va_Nw.use rfl (hE.2.2.2.1 "java/lang/Exception" (by decide +kernel))) (vx_c (va_Nw.use rfl (hE.2.2.2.1 "java/lang/Throwable" (by decide +kernel))) (vx_n)))))) (by decide +kernel) hE.1 hE.2.1 hS (hl.1.trans hml.symm) dX0_key_11 dX0_key_14 dX0_key_15 dX0_key_17 dX0_key_20 (fun x hx => (hEx x hx).elim) (Nat.le_of_ble_eq_true rfl) (Nat.le_of_ble_eq_true rfl) (Nat.le_of_ble_eq_true rfl) (Nat.le_of_ble_eq_true rfl) hlocks (fun t ha hz hk => ?_) hS.2.2 (Nat.le_of_ble_eq_true rfl) (Nat.le_of_ble_eq_true rfl)
    exact ⟨(cp, cq, cs, cn, nI P, nI Q9, nI G, se, pu), trivial, ⟨⟨rfl, Or.inr (Or.inl ⟨rfl, by rw [dk_fkey, if_neg hdp, if_pos hno]⟩)⟩, hP.kept (fun k q hq => hk q.1 (hP k q hq).lt), va_K.moved ha hK, hD⟩, dk_F hS hz hk⟩

set_option maxHeartbeats 4000000 in
set_option maxRecDepth 100000 in
theorem dk_c_agree (l : Launch) (hl9 : l.stackTraces = false) (dC : Nat → ClassId) (dI : Nat → Nat → Nat) (h0 h1 h2 : Nat) (a1 a2 : ClassId) (cp cq : Int32) (cs : Int64) (cn dp dq dg : Int32) (se pu : Nat → Int32) (x y : Int32) (hI : dk_ID dp dq dg) (hIK : dk_IK dp dq dg se pu) (sz : Nat) : vx_Met l yX0_agree wsX0_agree ({ frames := 7, cells := 2, slots := 12, locals := 103 }) (va_Pc [.ref h0, .int x, .int y] (fun U => U.heap.size = sz ∧ va_P (dC, dI) vwCl [(h0, .inr (0, [.int cp, .int cq, .long cs, .int cn, .int dp, .int dq, .int dg, .ref h1, .ref h2])), (h1, .inl (a1, 8, .inl se)), (h2, .inl (a2, 8, .inl pu))] U.heap ∧ va_K (dC, dI) vwCl [(a1, .int), (a2, .int)] U ∧ va_D (fun _ => True) [(h0, .inr (0, [.int cp, .int cq, .long cs, .int cn, .int dp, .int dq, .int dg, .ref h1, .ref h2])), (h1, .inl (a1, 8, .inl se)), (h2, .inl (a2, 8, .inl pu))] ∧ dk_E (va_A [(h0, .inr (0, [.int cp, .int cq, .long cs, .int cn, .int dp, .int dq, .int dg, .ref h1, .ref h2])), (h1, .inl (a1, 8, .inl se)), (h2, .inl (a2, 8, .inl pu))] sz) U U.heap)) (va_Qi (fun (r9 : Int32) (u9 : dk_S) => u9 = (cp, cq, cs, cn, dp, dq, dg, se, pu) ∧ dk_fagr dp se x y = (0, r9)) (dk_B dC dI (va_A [(h0, .inr (0, [.int cp, .int cq, .long cs, .int cn, .int dp, .int dq, .int dg, .ref h1, .ref h2])), (h1, .inl (a1, 8, .inl se)), (h2, .inl (a2, 8, .inl pu))] sz) h0 h1 h2 a1 a2) (va_A [(h0, .inr (0, [.int cp, .int cq, .long cs, .int cn, .int dp, .int dq, .int dg, .ref h1, .ref h2])), (h1, .inl (a1, 8, .inl se)), (h2, .inl (a2, 8, .inl pu))] sz)) (vx_X (fun _ : dk_S => True) (fun E9 u9 t9 => (u9 = (cp, cq, cs, cn, dp, dq, dg, se, pu) ∧ ((E9 = "java/util/NoSuchElementException" ∧ dk_fagr dp se x y = (1, 0)) ∨ (E9 = "java/lang/IllegalArgumentException" ∧ dk_fagr dp se x y = (2, 0)) ∨ (E9 = "java/lang/ArithmeticException" ∧ dk_fagr dp se x y = (3, 0)))) ∧ dk_B dC dI (va_A [(h0, .inr (0, [.int cp, .int cq, .long cs, .int cn, .int dp, .int dq, .int dg, .ref h1, .ref h2])), (h1, .inl (a1, 8, .inl se)), (h2, .inl (a2, 8, .inl pu))] sz) h0 h1 h2 a1 a2 u9 t9) (va_A [(h0, .inr (0, [.int cp, .int cq, .long cs, .int cn, .int dp, .int dq, .int dg, .ref h1, .ref h2])), (h1, .inl (a1, 8, .inl se)), (h2, .inl (a2, 8, .inl pu))] sz)) 2 12 (va_A [(h0, .inr (0, [.int cp, .int cq, .long cs, .int cn, .int dp, .int dq, .int dg, .ref h1, .ref h2])), (h1, .inl (a1, 8, .inl se)), (h2, .inl (a2, 8, .inl pu))] sz) := by
  refine vx_ofW (cc := cX0_agree) (maxL := 4) (ret := (some .int)) (by decide) rfl ?_
  intro p e s m args below meth c s₁ B hml hEx hv
  obtain ⟨rfl, hsz, hP, hK, hD0, hE⟩ := hv
  have hx := B.exec
  have hb := B.bytes
  have hr := B.returns
  have hts := atoms_spec (ws := wsX0_agree) B.pre
  have hown : s.vm.findClass RX0 = some m.cls := findClass_of_methodNamed B.named
  have hlocks := B.notSynchronized
  subst hsz
  have hD := hD0.self (sz := s.heap.size)
  generalize hAe : va_A [(h0, .inr (0, [.int cp, .int cq, .long cs, .int cn, .int dp, .int dq, .int dg, .ref h1, .ref h2])), (h1, .inl (a1, 8, .inl se)), (h2, .inl (a2, 8, .inl pu))] s.heap.size = A at hD hE ⊢
  have hA : ∀ q : Nat, s.heap.size ≤ q → A q := fun q h => by rw [← hAe]; exact Or.inr h
  have hS : va_S A s.heap s.heap [] := va_S.rf
  have hl := lv_entry ([.ref h0, .int x, .int y]) (n := 4) (Nat.le_of_ble_eq_true rfl)
  rw [lg_entry_eq]
  generalize (lg_sl ([.ref h0, .int x, .int y]) ++ List.replicate (4 - (lg_sl ([.ref h0, .int x, .int y])).length) Slot.unset).toArray = ls at hl ⊢
  have hl : lv_has ls 4 [(0, .ref h0), (1, .int x), (2, .int y)] := hl
  refine lv_aload_n hx hb dX0_agree_0 rfl (lv_at hl 0 rfl) ?_
  refine lv_iload_n hx hb dX0_agree_1 rfl (lv_at hl 1 rfl) ?_
  have hPc := hP.sub (ws' := [(h0, .inr (0, [.int cp, .int cq, .long cs, .int cn, .int dp, .int dq, .int dg, .ref h1, .ref h2])), (h1, .inl (a1, 8, .inl se)), (h2, .inl (a2, 8, .inl pu))]) [0, 1, 2] rfl
  have hDc := hD.sub (ws' := [(h0, .inr (0, [.int cp, .int cq, .long cs, .int cn, .int dp, .int dq, .int dg, .ref h1, .ref h2])), (h1, .inl (a1, 8, .inl se)), (h2, .inl (a2, 8, .inl pu))]) [0, 1, 2] (by decide) rfl
  have hKc := hK.sub (tys' := [(a1, .int), (a2, .int)]) [0, 1] rfl
  have hFc := va_free (wc := [(h0, .inr (0, [.int cp, .int cq, .long cs, .int cn, .int dp, .int dq, .int dg, .ref h1, .ref h2])), (h1, .inl (a1, 8, .inl se)), (h2, .inl (a2, 8, .inl pu))]) hD hS hA [0, 1, 2] rfl
  refine vx_callv (vx_runV (As := [.int x]) (rest := []) ⟨hx, hb, hml, hown, hts⟩ (dk_c_requireKey l hl9 dC dI h0 h1 h2 a1 a2 cp cq cs cn dp dq dg se pu x _) (cwV 1 hts gX0_agree_X0_requireKey rfl rfl rfl (by decide +kernel) ⟨Nat.le_of_ble_eq_true rfl, Nat.le_of_ble_eq_true rfl⟩) ⟨fun a U g mk q => by obtain ⟨q0, q1, qP, qK, qD, qE⟩ := q; exact ⟨q0, q1, qP, va_K.moved (u := U) (U := U.calling g mk a) (Vm.Alike.refl U.vm) qK, qD, qE.blind⟩, va_recv hKc hPc (ci := 0) (q0 := 0) rfl rfl, fun U hU hW => ⟨rfl, by rw [hU], by rw [hU]; exact hPc, va_K.moved hW.alike hKc, hDc.weaken (fun _ _ _ _ => trivial), hE.go hS hFc hU hW⟩⟩ rfl rfl hl.1 rfl (lv_room (Nat.le_of_ble_eq_true rfl)) dX0_agree_2 ⟨Nat.le_of_ble_eq_true rfl, Nat.le_of_ble_eq_true rfl⟩) hS (fun q _ h => hFc q h) hFc (fun q _ h => hFc q h) (fun E9 ce q9 u t H1 locs ht hvm hw hB hz1 hk1 hS hce hcv hcl => ?_) (fun u t H1 locs ht hvm hw hB hz1 hk1 hS => ?_)
  · obtain ⟨hEc, hB⟩ := hB
    obtain ⟨rfl, hE9, hnk⟩ := hEc
    obtain ⟨hP1, hK1, hD1⟩ := hB
    rw [ht] at hP1
    have hK1 := va_K.moved hvm.symm hK1
    obtain ⟨hP, hD⟩ := va_join (wr := []) (w1 := [(h0, .inr (0, [.int cp, .int cq, .long cs, .int cn, .int dp, .int dq, .int dg, .ref h1, .ref h2])), (h1, .inl (a1, 8, .inl se)), (h2, .inl (a2, 8, .inl pu))]) hP hD [0, 1, 2] [] rfl rfl (by decide) (by decide) hk1 hFc hP1 hD1
    have hK := (hK.sub (tys' := []) [] rfl).app hK1
    generalize H1 = H at hP hS hce ⊢
    have hP : va_P (dC, dI) vwCl [(h0, .inr (0, [.int cp, .int cq, .long cs, .int cn, .int dp, .int dq, .int dg, .ref h1, .ref h2])), (h1, .inl (a1, 8, .inl se)), (h2, .inl (a2, 8, .inl pu))] H := hP
    have hD : va_D A [(h0, .inr (0, [.int cp, .int cq, .long cs, .int cn, .int dp, .int dq, .int dg, .ref h1, .ref h2])), (h1, .inl (a1, 8, .inl se)), (h2, .inl (a2, 8, .inl pu))] := hD
    have hK : va_K (dC, dI) vwCl [(a1, .int), (a2, .int)] s := hK
    exact vx_out (E := E9) (fun x hx => (hEx x hx).elim) hlocks hce hcv hcl (fun t ht ha => ⟨(cp, cq, cs, cn, dp, dq, dg, se, pu), trivial, ⟨⟨rfl, Or.inl ⟨hE9, by rw [dk_fagr, if_pos hnk]⟩⟩, by rw [ht]; exact hP, va_K.moved ha hK, hD⟩, hS.F ht⟩) hS.2.2 (Nat.le_of_ble_eq_true rfl) (Nat.le_of_ble_eq_true rfl)
  obtain ⟨rfl, hhk⟩ := hw
  obtain ⟨j, hj, rfl⟩ := dk_sl_of.mp hhk.1
  have hse : ¬ se j = 0 := (dk_hk_nI hj).mp hhk
  obtain ⟨hdp, hex0, -⟩ := (hIK j hj).resolve_left hse
  obtain ⟨P, Q9, G, hP9, hQ9, hdom, rfl, rfl, rfl⟩ := hI.resolve_left (fun q => hdp q.1)
  obtain ⟨hs1, hs2, hs3, hs4, hs5, hs6⟩ := dk_dom_sz hP9 hdom
  obtain ⟨x9, hx91, hx92, hx93⟩ := dk_ex_of hQ9 hex0
  obtain ⟨hP1, hK1, hD1⟩ := hB
  rw [ht] at hP1
  have hK1 := va_K.moved hvm.symm hK1
  obtain ⟨hP, hD⟩ := va_join (wr := []) (w1 := [(h0, .inr (0, [.int cp, .int cq, .long cs, .int cn, .int (nI P), .int (nI Q9), .int (nI G), .ref h1, .ref h2])), (h1, .inl (a1, 8, .inl se)), (h2, .inl (a2, 8, .inl pu))]) hP hD [0, 1, 2] [] rfl rfl (by decide) (by decide) hk1 hFc hP1 hD1
  have hK := (hK.sub (tys' := []) [] rfl).app hK1
  generalize H1 = H at hP hS ⊢
  have hP : va_P (dC, dI) vwCl [(h0, .inr (0, [.int cp, .int cq, .long cs, .int cn, .int (nI P), .int (nI Q9), .int (nI G), .ref h1, .ref h2])), (h1, .inl (a1, 8, .inl se)), (h2, .inl (a2, 8, .inl pu))] H := hP
  have hD : va_D A [(h0, .inr (0, [.int cp, .int cq, .long cs, .int cn, .int (nI P), .int (nI Q9), .int (nI G), .ref h1, .ref h2])), (h1, .inl (a1, 8, .inl se)), (h2, .inl (a2, 8, .inl pu))] := hD
  have hK : va_K (dC, dI) vwCl [(a1, .int), (a2, .int)] s := hK
  refine lv_aload_n hx hb dX0_agree_5 rfl (lv_at hl 0 rfl) ?_
  refine lv_iload_n hx hb dX0_agree_6 rfl (lv_at hl 2 rfl) ?_
  have hPc := hP.sub (ws' := [(h0, .inr (0, [.int cp, .int cq, .long cs, .int cn, .int (nI P), .int (nI Q9), .int (nI G), .ref h1, .ref h2])), (h1, .inl (a1, 8, .inl se)), (h2, .inl (a2, 8, .inl pu))]) [0, 1, 2] rfl
  have hKc := hK.sub (tys' := [(a1, .int), (a2, .int)]) [0, 1] rfl
  refine vp_callSi (W.runV (As := [.int y]) (rest := []) ⟨hx, hb, hml, hown, hts⟩ (dk_c_isPeer l dC dI h0 h1 h2 a1 a2 cp cq cs cn (nI P) (nI Q9) (nI G) se pu y) (cwV 1 hts gX0_agree_X0_isPeer rfl rfl rfl (by decide +kernel) ⟨Nat.le_of_ble_eq_true rfl, Nat.le_of_ble_eq_true rfl⟩) ⟨fun a U g mk q => by obtain ⟨q0, qP, qK⟩ := q; exact ⟨q0, qP, va_K.moved (u := U) (U := U.calling g mk a) (Vm.Alike.refl U.vm) qK⟩, va_recv hKc hPc (ci := 0) (q0 := 0) rfl rfl, fun U hU hW => ⟨rfl, by rw [hU]; exact hPc, va_K.moved hW.alike hKc⟩⟩ rfl rfl hl.1 rfl (lv_room (Nat.le_of_ble_eq_true rfl)) dX0_agree_7 ⟨Nat.le_of_ble_eq_true rfl, Nat.le_of_ble_eq_true rfl⟩) (fun r_7 hr_7 => ?_)
  subst hr_7
  refine lv_if_ne (tgt := 23) hx hb dX0_agree_10 (by decide) (fun c_10 => ?_) (fun c_10 => ?_)
  · have hpe : dk_pe y (nI P) := by
      by_cases q : dk_pe y (nI P)
      · exact q
      · exact absurd (if_neg q) c_10
    obtain ⟨y9, hy1, hy2, rfl⟩ := (dk_pe_of (by omega) hP9).mp hpe
    have hag : dk_pw (nI y9) (se (dk_n (nI j))) (nI P) = nI (y9 ^ x9 % P) := by
      rw [dk_n_nI (by omega), hx93, dk_pw_nI (by omega) (by omega) hP9]
    refine lv_iload_n hx hb dX0_agree_23 rfl (lv_at hl 2 rfl) ?_
    refine lv_aload_n hx hb dX0_agree_24 rfl (lv_at hl 0 rfl) ?_
    refine va_get (D := (dC, dI)) (ci := 0) (v := .ref h1) (C := RX0) (T := TX0) (N := 9) hx hb hts (by decide +kernel) hown hK hP 0 rfl rfl 7 (by decide) (hts (.fieldLink RX0 9 "DomainKeys" "secrets" "[I") (by decide +kernel)) (fun _ h9 => h9) rfl dX0_agree_25 ?_
    refine lv_iload_n hx hb dX0_agree_28 rfl (lv_at hl 1 rfl) ?_
    refine va_iald hx hb hK hP 1 0 rfl rfl (vp_in_nI hj (by decide)) dX0_agree_29 ?_
    refine lv_topi (fun v_29 ev_29 => ?_)
    have ev_29 : v_29 = se j := ev_29.trans (congrArg se (nI_clamp (Nat.lt_trans hj (by decide))))
    subst ev_29
    refine lv_topi (fun v_29 ev_29 => ?_)
    have ev_29 : v_29 = nI x9 := ev_29.trans hx93
    subst ev_29
    refine lv_aload_n hx hb dX0_agree_30 rfl (lv_at hl 0 rfl) ?_
    refine va_get (D := (dC, dI)) (ci := 0) (v := .int (nI P)) (C := RX0) (T := TX0) (N := 9) hx hb hts (by decide +kernel) hown hK hP 0 rfl rfl 4 (by decide) (hts (.fieldLink RX0 63 "DomainKeys" "domainP" "I") (by decide +kernel)) (fun _ h9 => h9) rfl dX0_agree_31 ?_
    refine vp_callSi (W.runS (As := [.int (nI y9), .int (nI x9), .int (nI P)]) (rest := []) ⟨hx, hb, hml, hown, hts⟩ (dk_c_power l y9 x9 P (by omega) (by omega) (by omega) hP9) (va_cwS 3 hts gX0_agree_X0_power rfl rfl rfl (by decide +kernel) ⟨Nat.le_of_ble_eq_true rfl, Nat.le_of_ble_eq_true rfl⟩) ⟨fun _ _ _ _ q9 => q9, fun U hU hW => ⟨rfl, trivial⟩⟩ rfl rfl hl.1 rfl (lv_room (Nat.le_of_ble_eq_true rfl)) dX0_agree_34 ⟨Nat.le_of_ble_eq_true rfl, Nat.le_of_ble_eq_true rfl⟩) (fun r_34 hr_34 => ?_)
    subst hr_34
    refine lv_istore_n (lv' := [(3, .int (nI (y9 ^ x9 % P))), (0, .ref h0), (1, .int (nI j)), (2, .int (nI y9))]) hx hb dX0_agree_37 rfl hl (by decide) rfl (fun ls hl => ?_)
    refine lv_iload_n hx hb dX0_agree_38 rfl (lv_at hl 0 rfl) ?_
    refine lv_iconst (v := 1) hx hb dX0_agree_39 (by decide) ?_
    refine lv_icmp_ne (tgt := 53) hx hb dX0_agree_40 (by decide) (fun c_40 => ?_) (fun c_40 => ?_)
    · refine lv_iload_n hx hb dX0_agree_53 rfl (lv_at hl 0 rfl) ?_
      refine W.widen (k := 2) (n := 12) (Nat.le_of_ble_eq_true rfl) (Nat.le_of_ble_eq_true rfl) ?_
      exact vx_ret (W.iret (v := (nI (y9 ^ x9 % P))) hx hb hr (fun t ht hW => ⟨⟨nI (y9 ^ x9 % P), (cp, cq, cs, cn, nI P, nI Q9, nI G, se, pu), rfl, ⟨rfl, by rw [dk_fagr, if_neg (fun q => q hhk), if_neg (fun q => q hpe), if_neg (fun q => c_40 (hag.symm.trans q)), hag]⟩, by rw [ht]; exact hP, va_K.moved hW.alike hK, hD⟩, hS.F ht⟩) hS.2.2 dX0_agree_54)
    · obtain ⟨sa_43, hs_43⟩ := hE.2.2.2.2.1 (125, "secret would be 1") (by decide +kernel)
      refine vx_throwS (own := RX0) (cls := "java/lang/ArithmeticException") (text := "secret would be 1") (names := ["java/lang/RuntimeException", "java/lang/Exception"]) (ik := 118) (is := 125) (ic := 122) (rest := []) hx hb hl9 hown (by decide +kernel) (by decide +kernel) (hts (.classLink RX0 118 "java/lang/ArithmeticException") (by decide +kernel)) (hts (.initialized "java/lang/ArithmeticException") (by decide +kernel)) hs_43 (vx_hat (L := vx_atS RX0 122 "java/lang/ArithmeticException" ["java/lang/RuntimeException", "java/lang/Exception"]) (B := [.castable "java/lang/ArithmeticException" "java/lang/ArithmeticException", .declares (Bundle.initS "java/lang/RuntimeException"), .declares (Bundle.initS "java/lang/Exception"), .declares (Bundle.initS "java/lang/Throwable")]) (fun w hw => hts w ((by decide +kernel : ∀ w ∈ (vx_atS RX0 122 "java/lang/ArithmeticException" ["java/lang/RuntimeException", "java/lang/Exception"]).filter goodWord, w ∈ wsX0_agree) w hw)) (by decide +kernel) (vx_c (va_Nw.use rfl (hE.2.2.1 "java/lang/ArithmeticException" (by decide +kernel))) (vx_c (va_Nw.use rfl (hE.2.2.2.1 "java/lang/RuntimeException" (by decide +kernel))) (vx_c (va_Nw.use rfl (hE.2.2.2.1 "java/lang/Exception" (by decide +kernel))) (vx_c (va_Nw.use rfl (hE.2.2.2.1 "java/lang/Throwable" (by decide +kernel))) (vx_n)))))) (by decide +kernel) hE.1 hE.2.1 hS (hl.1.trans hml.symm) dX0_agree_43 dX0_agree_46 dX0_agree_47 dX0_agree_49 dX0_agree_52 (fun x hx => (hEx x hx).elim) (Nat.le_of_ble_eq_true rfl) (Nat.le_of_ble_eq_true rfl) (Nat.le_of_ble_eq_true rfl) (Nat.le_of_ble_eq_true rfl) hlocks (fun t ha hz hk => ?_) hS.2.2 (Nat.le_of_ble_eq_true rfl) (Nat.le_of_ble_eq_true rfl)
      exact ⟨(cp, cq, cs, cn, nI P, nI Q9, nI G, se, pu), trivial, ⟨⟨rfl, Or.inr (Or.inr ⟨rfl, by rw [dk_fagr, if_neg (fun q => q hhk), if_neg (fun q => q hpe), if_pos (hag.trans c_40)]⟩)⟩, hP.kept (fun k q hq => hk q.1 (hP k q hq).lt), va_K.moved ha hK, hD⟩, dk_F hS hz hk⟩
  · have hnp : ¬ dk_pe y (nI P) := fun q => by
      rw [if_pos q] at c_10
      exact absurd c_10 (by decide)
    obtain ⟨sa_13, hs_13⟩ := hE.2.2.2.2.1 (123, "peer is not 2 .. p - 2") (by decide +kernel)
    refine vx_throwS (own := RX0) (cls := "java/lang/IllegalArgumentException") (text := "peer is not 2 .. p - 2") (names := ["java/lang/RuntimeException", "java/lang/Exception"]) (ik := 48) (is := 123) (ic := 52) (rest := []) hx hb hl9 hown (by decide +kernel) (by decide +kernel) (hts (.classLink RX0 48 "java/lang/IllegalArgumentException") (by decide +kernel)) (hts (.initialized "java/lang/IllegalArgumentException") (by decide +kernel)) hs_13 (vx_hat (L := vx_atS RX0 52 "java/lang/IllegalArgumentException" ["java/lang/RuntimeException", "java/lang/Exception"]) (B := [.castable "java/lang/IllegalArgumentException" "java/lang/IllegalArgumentException", .declares (Bundle.initS "java/lang/RuntimeException"), .declares (Bundle.initS "java/lang/Exception"), .declares (Bundle.initS "java/lang/Throwable")]) (fun w hw => hts w ((by decide +kernel : ∀ w ∈ (vx_atS RX0 52 "java/lang/IllegalArgumentException" ["java/lang/RuntimeException", "java/lang/Exception"]).filter goodWord, w ∈ wsX0_agree) w hw)) (by decide +kernel) (vx_c (va_Nw.use rfl (hE.2.2.1 "java/lang/IllegalArgumentException" (by decide +kernel))) (vx_c (va_Nw.use rfl (hE.2.2.2.1 "java/lang/RuntimeException" (by decide +kernel))) (vx_c (va_Nw.use rfl (hE.2.2.2.1 "java/lang/Exception" (by decide +kernel))) (vx_c (va_Nw.use rfl (hE.2.2.2.1 "java/lang/Throwable" (by decide +kernel))) (vx_n)))))) (by decide +kernel) hE.1 hE.2.1 hS (hl.1.trans hml.symm) dX0_agree_13 dX0_agree_16 dX0_agree_17 dX0_agree_19 dX0_agree_22 (fun x hx => (hEx x hx).elim) (Nat.le_of_ble_eq_true rfl) (Nat.le_of_ble_eq_true rfl) (Nat.le_of_ble_eq_true rfl) (Nat.le_of_ble_eq_true rfl) hlocks (fun t ha hz hk => ?_) hS.2.2 (Nat.le_of_ble_eq_true rfl) (Nat.le_of_ble_eq_true rfl)
    exact ⟨(cp, cq, cs, cn, nI P, nI Q9, nI G, se, pu), trivial, ⟨⟨rfl, Or.inr (Or.inl ⟨rfl, by rw [dk_fagr, if_neg (fun q => q hhk), if_pos hnp]⟩)⟩, hP.kept (fun k q hq => hk q.1 (hP k q hq).lt), va_K.moved ha hK, hD⟩, dk_F hS hz hk⟩
end
section
set_option maxHeartbeats 4000000 in
set_option maxRecDepth 100000 in
theorem dk_c_sign (l : Launch) (hl9 : l.stackTraces = false) (dC : Nat → ClassId) (dI : Nat → Nat → Nat) (h0 h1 h2 : Nat) (a1 a2 : ClassId) (cp cq : Int32) (cs : Int64) (cn dp dq dg : Int32) (se pu : Nat → Int32) (x : Int32) (a : Int64) (k : Int32) (hI : dk_ID dp dq dg) (hIK : dk_IK dp dq dg se pu) (sz : Nat) : vx_Met l yX0_sign wsX0_sign ({ frames := 7, cells := 2, slots := 12, locals := 103 }) (va_Pc [.ref h0, .int x, .long a, .int k] (fun U => U.heap.size = sz ∧ va_P (dC, dI) vwCl [(h0, .inr (0, [.int cp, .int cq, .long cs, .int cn, .int dp, .int dq, .int dg, .ref h1, .ref h2])), (h1, .inl (a1, 8, .inl se)), (h2, .inl (a2, 8, .inl pu))] U.heap ∧ va_K (dC, dI) vwCl [(a1, .int), (a2, .int)] U ∧ va_D (fun _ => True) [(h0, .inr (0, [.int cp, .int cq, .long cs, .int cn, .int dp, .int dq, .int dg, .ref h1, .ref h2])), (h1, .inl (a1, 8, .inl se)), (h2, .inl (a2, 8, .inl pu))] ∧ dk_E (va_A [(h0, .inr (0, [.int cp, .int cq, .long cs, .int cn, .int dp, .int dq, .int dg, .ref h1, .ref h2])), (h1, .inl (a1, 8, .inl se)), (h2, .inl (a2, 8, .inl pu))] sz) U U.heap)) (va_Ql (fun (r9 : Int64) (u9 : dk_S) => u9 = (cp, cq, cs, cn, dp, dq, dg, se, pu) ∧ dk_fsig dp dq dg se x a k = (0, r9)) (dk_B dC dI (va_A [(h0, .inr (0, [.int cp, .int cq, .long cs, .int cn, .int dp, .int dq, .int dg, .ref h1, .ref h2])), (h1, .inl (a1, 8, .inl se)), (h2, .inl (a2, 8, .inl pu))] sz) h0 h1 h2 a1 a2) (va_A [(h0, .inr (0, [.int cp, .int cq, .long cs, .int cn, .int dp, .int dq, .int dg, .ref h1, .ref h2])), (h1, .inl (a1, 8, .inl se)), (h2, .inl (a2, 8, .inl pu))] sz)) (vx_X (fun _ : dk_S => True) (fun E9 u9 t9 => (u9 = (cp, cq, cs, cn, dp, dq, dg, se, pu) ∧ ((E9 = "java/util/NoSuchElementException" ∧ dk_fsig dp dq dg se x a k = (1, 0)) ∨ (E9 = "java/lang/IllegalArgumentException" ∧ dk_fsig dp dq dg se x a k = (2, 0)) ∨ (E9 = "java/lang/ArithmeticException" ∧ dk_fsig dp dq dg se x a k = (3, 0)))) ∧ dk_B dC dI (va_A [(h0, .inr (0, [.int cp, .int cq, .long cs, .int cn, .int dp, .int dq, .int dg, .ref h1, .ref h2])), (h1, .inl (a1, 8, .inl se)), (h2, .inl (a2, 8, .inl pu))] sz) h0 h1 h2 a1 a2 u9 t9) (va_A [(h0, .inr (0, [.int cp, .int cq, .long cs, .int cn, .int dp, .int dq, .int dg, .ref h1, .ref h2])), (h1, .inl (a1, 8, .inl se)), (h2, .inl (a2, 8, .inl pu))] sz)) 2 12 (va_A [(h0, .inr (0, [.int cp, .int cq, .long cs, .int cn, .int dp, .int dq, .int dg, .ref h1, .ref h2])), (h1, .inl (a1, 8, .inl se)), (h2, .inl (a2, 8, .inl pu))] sz) := by
  refine vx_ofW (cc := cX0_sign) (maxL := 11) (ret := (some .long)) (by decide) rfl ?_
  intro p e s m args below meth c s₁ B hml hEx hv
  obtain ⟨rfl, hsz, hP, hK, hD0, hE⟩ := hv
  have hx := B.exec
  have hb := B.bytes
  have hr := B.returns
  have hts := atoms_spec (ws := wsX0_sign) B.pre
  have hown : s.vm.findClass RX0 = some m.cls := findClass_of_methodNamed B.named
  have hlocks := B.notSynchronized
  subst hsz
  have hD := hD0.self (sz := s.heap.size)
  generalize hAe : va_A [(h0, .inr (0, [.int cp, .int cq, .long cs, .int cn, .int dp, .int dq, .int dg, .ref h1, .ref h2])), (h1, .inl (a1, 8, .inl se)), (h2, .inl (a2, 8, .inl pu))] s.heap.size = A at hD hE ⊢
  have hA : ∀ q : Nat, s.heap.size ≤ q → A q := fun q h => by rw [← hAe]; exact Or.inr h
  have hS : va_S A s.heap s.heap [] := va_S.rf
  have hl := lv_entry ([.ref h0, .int x, .long a, .int k]) (n := 11) (Nat.le_of_ble_eq_true rfl)
  rw [lg_entry_eq]
  generalize (lg_sl ([.ref h0, .int x, .long a, .int k]) ++ List.replicate (11 - (lg_sl ([.ref h0, .int x, .long a, .int k])).length) Slot.unset).toArray = ls at hl ⊢
  have hl : lv_has ls 11 [(0, .ref h0), (1, .int x), (2, .long a), (4, .int k)] := hl
  refine lv_aload_n hx hb dX0_sign_0 rfl (lv_at hl 0 rfl) ?_
  refine lv_iload_n hx hb dX0_sign_1 rfl (lv_at hl 1 rfl) ?_
  have hPc := hP.sub (ws' := [(h0, .inr (0, [.int cp, .int cq, .long cs, .int cn, .int dp, .int dq, .int dg, .ref h1, .ref h2])), (h1, .inl (a1, 8, .inl se)), (h2, .inl (a2, 8, .inl pu))]) [0, 1, 2] rfl
  have hDc := hD.sub (ws' := [(h0, .inr (0, [.int cp, .int cq, .long cs, .int cn, .int dp, .int dq, .int dg, .ref h1, .ref h2])), (h1, .inl (a1, 8, .inl se)), (h2, .inl (a2, 8, .inl pu))]) [0, 1, 2] (by decide) rfl
  have hKc := hK.sub (tys' := [(a1, .int), (a2, .int)]) [0, 1] rfl
  have hFc := va_free (wc := [(h0, .inr (0, [.int cp, .int cq, .long cs, .int cn, .int dp, .int dq, .int dg, .ref h1, .ref h2])), (h1, .inl (a1, 8, .inl se)), (h2, .inl (a2, 8, .inl pu))]) hD hS hA [0, 1, 2] rfl
  refine vx_callv (vx_runV (As := [.int x]) (rest := []) ⟨hx, hb, hml, hown, hts⟩ (dk_c_requireKey l hl9 dC dI h0 h1 h2 a1 a2 cp cq cs cn dp dq dg se pu x _) (cwV 1 hts gX0_sign_X0_requireKey rfl rfl rfl (by decide +kernel) ⟨Nat.le_of_ble_eq_true rfl, Nat.le_of_ble_eq_true rfl⟩) ⟨fun a U g mk q => by obtain ⟨q0, q1, qP, qK, qD, qE⟩ := q; exact ⟨q0, q1, qP, va_K.moved (u := U) (U := U.calling g mk a) (Vm.Alike.refl U.vm) qK, qD, qE.blind⟩, va_recv hKc hPc (ci := 0) (q0 := 0) rfl rfl, fun U hU hW => ⟨rfl, by rw [hU], by rw [hU]; exact hPc, va_K.moved hW.alike hKc, hDc.weaken (fun _ _ _ _ => trivial), hE.go hS hFc hU hW⟩⟩ rfl rfl hl.1 rfl (lv_room (Nat.le_of_ble_eq_true rfl)) dX0_sign_2 ⟨Nat.le_of_ble_eq_true rfl, Nat.le_of_ble_eq_true rfl⟩) hS (fun q _ h => hFc q h) hFc (fun q _ h => hFc q h) (fun E9 ce q9 u t H1 locs ht hvm hw hB hz1 hk1 hS hce hcv hcl => ?_) (fun u t H1 locs ht hvm hw hB hz1 hk1 hS => ?_)
  · obtain ⟨hEc, hB⟩ := hB
    obtain ⟨rfl, hE9, hnk⟩ := hEc
    obtain ⟨hP1, hK1, hD1⟩ := hB
    rw [ht] at hP1
    have hK1 := va_K.moved hvm.symm hK1
    obtain ⟨hP, hD⟩ := va_join (wr := []) (w1 := [(h0, .inr (0, [.int cp, .int cq, .long cs, .int cn, .int dp, .int dq, .int dg, .ref h1, .ref h2])), (h1, .inl (a1, 8, .inl se)), (h2, .inl (a2, 8, .inl pu))]) hP hD [0, 1, 2] [] rfl rfl (by decide) (by decide) hk1 hFc hP1 hD1
    have hK := (hK.sub (tys' := []) [] rfl).app hK1
    generalize H1 = H at hP hS hce ⊢
    have hP : va_P (dC, dI) vwCl [(h0, .inr (0, [.int cp, .int cq, .long cs, .int cn, .int dp, .int dq, .int dg, .ref h1, .ref h2])), (h1, .inl (a1, 8, .inl se)), (h2, .inl (a2, 8, .inl pu))] H := hP
    have hD : va_D A [(h0, .inr (0, [.int cp, .int cq, .long cs, .int cn, .int dp, .int dq, .int dg, .ref h1, .ref h2])), (h1, .inl (a1, 8, .inl se)), (h2, .inl (a2, 8, .inl pu))] := hD
    have hK : va_K (dC, dI) vwCl [(a1, .int), (a2, .int)] s := hK
    exact vx_out (E := E9) (fun x hx => (hEx x hx).elim) hlocks hce hcv hcl (fun t ht ha => ⟨(cp, cq, cs, cn, dp, dq, dg, se, pu), trivial, ⟨⟨rfl, Or.inl ⟨hE9, by rw [dk_fsig, if_pos hnk]⟩⟩, by rw [ht]; exact hP, va_K.moved ha hK, hD⟩, hS.F ht⟩) hS.2.2 (Nat.le_of_ble_eq_true rfl) (Nat.le_of_ble_eq_true rfl)
  obtain ⟨rfl, hhk⟩ := hw
  obtain ⟨j, hj, rfl⟩ := dk_sl_of.mp hhk.1
  have hse : ¬ se j = 0 := (dk_hk_nI hj).mp hhk
  obtain ⟨hdp, hex0, -⟩ := (hIK j hj).resolve_left hse
  obtain ⟨P, Q9, G, hP9, hQ9, hdom, rfl, rfl, rfl⟩ := hI.resolve_left (fun q => hdp q.1)
  obtain ⟨hs1, hs2, hs3, hs4, hs5, hs6⟩ := dk_dom_sz hP9 hdom
  obtain ⟨x9, hx91, hx92, hx93⟩ := dk_ex_of hQ9 hex0
  obtain ⟨hP1, hK1, hD1⟩ := hB
  rw [ht] at hP1
  have hK1 := va_K.moved hvm.symm hK1
  obtain ⟨hP, hD⟩ := va_join (wr := []) (w1 := [(h0, .inr (0, [.int cp, .int cq, .long cs, .int cn, .int (nI P), .int (nI Q9), .int (nI G), .ref h1, .ref h2])), (h1, .inl (a1, 8, .inl se)), (h2, .inl (a2, 8, .inl pu))]) hP hD [0, 1, 2] [] rfl rfl (by decide) (by decide) hk1 hFc hP1 hD1
  have hK := (hK.sub (tys' := []) [] rfl).app hK1
  generalize H1 = H at hP hS ⊢
  have hP : va_P (dC, dI) vwCl [(h0, .inr (0, [.int cp, .int cq, .long cs, .int cn, .int (nI P), .int (nI Q9), .int (nI G), .ref h1, .ref h2])), (h1, .inl (a1, 8, .inl se)), (h2, .inl (a2, 8, .inl pu))] H := hP
  have hD : va_D A [(h0, .inr (0, [.int cp, .int cq, .long cs, .int cn, .int (nI P), .int (nI Q9), .int (nI G), .ref h1, .ref h2])), (h1, .inl (a1, 8, .inl se)), (h2, .inl (a2, 8, .inl pu))] := hD
  have hK : va_K (dC, dI) vwCl [(a1, .int), (a2, .int)] s := hK
  refine lv_aload_n hx hb dX0_sign_5 rfl (lv_at hl 0 rfl) ?_
  refine lv_iload hx hb dX0_sign_6 (lv_at hl 3 rfl) ?_
  have hPc := hP.sub (ws' := [(h0, .inr (0, [.int cp, .int cq, .long cs, .int cn, .int (nI P), .int (nI Q9), .int (nI G), .ref h1, .ref h2])), (h1, .inl (a1, 8, .inl se)), (h2, .inl (a2, 8, .inl pu))]) [0, 1, 2] rfl
  have hKc := hK.sub (tys' := [(a1, .int), (a2, .int)]) [0, 1] rfl
  refine vp_callSi (W.runV (As := [.int k]) (rest := []) ⟨hx, hb, hml, hown, hts⟩ (dk_c_isExponent l dC dI h0 h1 h2 a1 a2 cp cq cs cn (nI P) (nI Q9) (nI G) se pu k) (cwV 1 hts gX0_sign_X0_isExponent rfl rfl rfl (by decide +kernel) ⟨Nat.le_of_ble_eq_true rfl, Nat.le_of_ble_eq_true rfl⟩) ⟨fun a U g mk q => by obtain ⟨q0, qP, qK⟩ := q; exact ⟨q0, qP, va_K.moved (u := U) (U := U.calling g mk a) (Vm.Alike.refl U.vm) qK⟩, va_recv hKc hPc (ci := 0) (q0 := 0) rfl rfl, fun U hU hW => ⟨rfl, by rw [hU]; exact hPc, va_K.moved hW.alike hKc⟩⟩ rfl rfl hl.1 rfl (lv_room (Nat.le_of_ble_eq_true rfl)) dX0_sign_8 ⟨Nat.le_of_ble_eq_true rfl, Nat.le_of_ble_eq_true rfl⟩) (fun r_8 hr_8 => ?_)
  subst hr_8
  refine lv_if_ne (tgt := 24) hx hb dX0_sign_11 (by decide) (fun c_11 => ?_) (fun c_11 => ?_)
  · have hex : dk_ex k (nI Q9) := by
      by_cases q : dk_ex k (nI Q9)
      · exact q
      · exact absurd (if_neg q) c_11
    obtain ⟨k9, hk91, hk92, rfl⟩ := dk_ex_of hQ9 hex
    obtain ⟨R9, hR9⟩ : ∃ R9 : Nat, R9 = G ^ k9 % P % Q9 := ⟨_, rfl⟩
    have hRlt : R9 < Q9 := by rw [hR9]; exact Nat.mod_lt _ (by omega)
    have hpw : G ^ k9 % P < P := Nat.mod_lt _ (by omega)
    have hxr : x9 * R9 ≤ 1073741824 * 1073741824 := Nat.mul_le_mul (by omega) (by omega)
    have hzl := dk_z_lt a
    obtain ⟨I9, hI9⟩ : ∃ I9 : Nat, I9 = k9 ^ (Q9 - 2) % Q9 := ⟨_, rfl⟩
    have hIlt : I9 < Q9 := by rw [hI9]; exact Nat.mod_lt _ (by omega)
    obtain ⟨S1, hS1⟩ : ∃ S1 : Nat, S1 = (dk_z a + x9 * R9) % Q9 := ⟨_, rfl⟩
    have hS1lt : S1 < Q9 := by rw [hS1]; exact Nat.mod_lt _ (by omega)
    have hsi : S1 * I9 ≤ 1073741824 * 1073741824 := Nat.mul_le_mul (by omega) (by omega)
    obtain ⟨S9, hS9⟩ : ∃ S9 : Nat, S9 = S1 * I9 % Q9 := ⟨_, rfl⟩
    have hS9lt : S9 < Q9 := by rw [hS9]; exact Nat.mod_lt _ (by omega)
    have hsr : dk_sr (nI P) (nI Q9) (nI G) (nI k9) = R9 := by rw [dk_sr, dk_n_nI (by omega), dk_n_nI (by omega), dk_n_nI hP9, dk_n_nI hQ9, ← hR9]
    have hss : dk_ss (nI P) (nI Q9) (nI G) (se (dk_n (nI j))) (nI k9) a = S9 := by rw [dk_ss, hsr, dk_n_nI (show j < 2147483648 by omega), hx93, dk_n_nI (show x9 < 2147483648 by omega), dk_n_nI (show k9 < 2147483648 by omega), dk_n_nI hQ9, ← hS1, ← hI9, ← hS9]
    refine lv_aload_n hx hb dX0_sign_24 rfl (lv_at hl 0 rfl) ?_
    refine va_get (D := (dC, dI)) (ci := 0) (v := .int (nI G)) (C := RX0) (T := TX0) (N := 9) hx hb hts (by decide +kernel) hown hK hP 0 rfl rfl 6 (by decide) (hts (.fieldLink RX0 69 "DomainKeys" "domainG" "I") (by decide +kernel)) (fun _ h9 => h9) rfl dX0_sign_25 ?_
    refine lv_iload hx hb dX0_sign_28 (lv_at hl 3 rfl) ?_
    refine lv_aload_n hx hb dX0_sign_30 rfl (lv_at hl 0 rfl) ?_
    refine va_get (D := (dC, dI)) (ci := 0) (v := .int (nI P)) (C := RX0) (T := TX0) (N := 9) hx hb hts (by decide +kernel) hown hK hP 0 rfl rfl 4 (by decide) (hts (.fieldLink RX0 63 "DomainKeys" "domainP" "I") (by decide +kernel)) (fun _ h9 => h9) rfl dX0_sign_31 ?_
    refine vp_callSi (W.runS (As := [.int (nI G), .int (nI k9), .int (nI P)]) (rest := []) ⟨hx, hb, hml, hown, hts⟩ (dk_c_power l G k9 P (by omega) (by omega) (by omega) hP9) (va_cwS 3 hts gX0_sign_X0_power rfl rfl rfl (by decide +kernel) ⟨Nat.le_of_ble_eq_true rfl, Nat.le_of_ble_eq_true rfl⟩) ⟨fun _ _ _ _ q9 => q9, fun U hU hW => ⟨rfl, trivial⟩⟩ rfl rfl hl.1 rfl (lv_room (Nat.le_of_ble_eq_true rfl)) dX0_sign_34 ⟨Nat.le_of_ble_eq_true rfl, Nat.le_of_ble_eq_true rfl⟩) (fun r_34 hr_34 => ?_)
    subst hr_34
    refine lv_aload_n hx hb dX0_sign_37 rfl (lv_at hl 0 rfl) ?_
    refine va_get (D := (dC, dI)) (ci := 0) (v := .int (nI Q9)) (C := RX0) (T := TX0) (N := 9) hx hb hts (by decide +kernel) hown hK hP 0 rfl rfl 5 (by decide) (hts (.fieldLink RX0 66 "DomainKeys" "domainQ" "I") (by decide +kernel)) (fun _ h9 => h9) rfl dX0_sign_38 ?_
    refine lv_irem hx hb dX0_sign_41 (nI_ne0 (by omega) hQ9) ?_
    refine lv_topi (fun v_41 ev_41 => ?_)
    have ev_41 : v_41 = nI R9 := ev_41.trans ((pk_rem (by omega) (by omega) hQ9).trans (by rw [hR9]))
    subst ev_41
    refine lv_i2l hx hb dX0_sign_42 rfl ?_
    refine lv_topl (fun v_42 ev_42 => ?_)
    have ev_42 : v_42 = lN R9 := ev_42.trans (nI_l (by omega))
    subst ev_42
    refine lv_lstore (lv' := [(5, .long (lN R9)), (0, .ref h0), (1, .int (nI j)), (2, .long a), (4, .int (nI k9))]) hx hb dX0_sign_43 hl (by decide) rfl (fun ls hl => ?_)
    refine lv_aload_n hx hb dX0_sign_45 rfl (lv_at hl 1 rfl) ?_
    refine lv_lload_n hx hb dX0_sign_46 rfl (lv_at hl 3 rfl) ?_
    refine vp_callSi (W.runV (As := [.long a]) (rest := []) ⟨hx, hb, hml, hown, hts⟩ (dk_c_digest l h0 a) (cwV 1 hts gX0_sign_X0_digest rfl rfl rfl (by decide +kernel) ⟨Nat.le_of_ble_eq_true rfl, Nat.le_of_ble_eq_true rfl⟩) ⟨fun _ _ _ _ q9 => q9, va_recv hK hP (ci := 0) (q0 := 0) rfl rfl, fun U hU hW => ⟨rfl, trivial⟩⟩ rfl rfl hl.1 rfl (lv_room (Nat.le_of_ble_eq_true rfl)) dX0_sign_47 ⟨Nat.le_of_ble_eq_true rfl, Nat.le_of_ble_eq_true rfl⟩) (fun r_47 hr_47 => ?_)
    subst hr_47
    refine lv_i2l hx hb dX0_sign_50 rfl ?_
    refine lv_topl (fun v_50 ev_50 => ?_)
    have ev_50 : v_50 = lN (dk_z a) := ev_50.trans (nI_l (by omega))
    subst ev_50
    refine lv_aload_n hx hb dX0_sign_51 rfl (lv_at hl 1 rfl) ?_
    refine va_get (D := (dC, dI)) (ci := 0) (v := .ref h1) (C := RX0) (T := TX0) (N := 9) hx hb hts (by decide +kernel) hown hK hP 0 rfl rfl 7 (by decide) (hts (.fieldLink RX0 9 "DomainKeys" "secrets" "[I") (by decide +kernel)) (fun _ h9 => h9) rfl dX0_sign_52 ?_
    refine lv_iload_n hx hb dX0_sign_55 rfl (lv_at hl 2 rfl) ?_
    refine va_iald hx hb hK hP 1 0 rfl rfl (vp_in_nI hj (by decide)) dX0_sign_56 ?_
    refine lv_topi (fun v_56 ev_56 => ?_)
    have ev_56 : v_56 = se j := ev_56.trans (congrArg se (nI_clamp (Nat.lt_trans hj (by decide))))
    subst ev_56
    refine lv_topi (fun v_56 ev_56 => ?_)
    have ev_56 : v_56 = nI x9 := ev_56.trans hx93
    subst ev_56
    refine lv_i2l hx hb dX0_sign_57 rfl ?_
    refine lv_topl (fun v_57 ev_57 => ?_)
    have ev_57 : v_57 = lN x9 := ev_57.trans (nI_l (by omega))
    subst ev_57
    refine lv_lload hx hb dX0_sign_58 (lv_at hl 0 rfl) ?_
    refine lv_lmul hx hb dX0_sign_60 ?_
    refine lv_topl (fun v_60 ev_60 => ?_)
    have ev_60 : v_60 = lN (x9 * R9) := ev_60.trans (lN_mul _ _)
    subst ev_60
    refine lv_ladd hx hb dX0_sign_61 ?_
    refine lv_topl (fun v_61 ev_61 => ?_)
    have ev_61 : v_61 = lN (dk_z a + x9 * R9) := ev_61.trans (lN_add _ _)
    subst ev_61
    refine lv_lstore (lv' := [(7, .long (lN (dk_z a + x9 * R9))), (5, .long (lN R9)), (0, .ref h0), (1, .int (nI j)), (2, .long a), (4, .int (nI k9))]) hx hb dX0_sign_62 hl (by decide) rfl (fun ls hl => ?_)
    refine lv_lload hx hb dX0_sign_64 (lv_at hl 0 rfl) ?_
    refine lv_aload_n hx hb dX0_sign_66 rfl (lv_at hl 2 rfl) ?_
    refine va_get (D := (dC, dI)) (ci := 0) (v := .int (nI Q9)) (C := RX0) (T := TX0) (N := 9) hx hb hts (by decide +kernel) hown hK hP 0 rfl rfl 5 (by decide) (hts (.fieldLink RX0 66 "DomainKeys" "domainQ" "I") (by decide +kernel)) (fun _ h9 => h9) rfl dX0_sign_67 ?_
    refine lv_i2l hx hb dX0_sign_70 rfl ?_
    refine lv_topl (fun v_70 ev_70 => ?_)
    have ev_70 : v_70 = lN Q9 := ev_70.trans (nI_l hQ9)
    subst ev_70
    refine lv_lrem hx hb dX0_sign_71 (dk_lne (by omega) (by omega)) ?_
    refine lv_topl (fun v_71 ev_71 => ?_)
    have ev_71 : v_71 = lN S1 := ev_71.trans ((pk_lRem (by omega) (by omega) (by omega)).trans (by rw [hS1]))
    subst ev_71
    refine lv_iload hx hb dX0_sign_72 (lv_at hl 5 rfl) ?_
    refine lv_aload_n hx hb dX0_sign_74 rfl (lv_at hl 2 rfl) ?_
    refine va_get (D := (dC, dI)) (ci := 0) (v := .int (nI Q9)) (C := RX0) (T := TX0) (N := 9) hx hb hts (by decide +kernel) hown hK hP 0 rfl rfl 5 (by decide) (hts (.fieldLink RX0 66 "DomainKeys" "domainQ" "I") (by decide +kernel)) (fun _ h9 => h9) rfl dX0_sign_75 ?_
    refine vp_callSi (W.runS (As := [.int (nI k9), .int (nI Q9)]) (rest := [.long (lN S1)]) ⟨hx, hb, hml, hown, hts⟩ (dk_c_inverse l k9 Q9 (by omega) (by omega) hQ9) (va_cwS 2 hts gX0_sign_X0_inverse rfl rfl rfl (by decide +kernel) ⟨Nat.le_of_ble_eq_true rfl, Nat.le_of_ble_eq_true rfl⟩) ⟨fun _ _ _ _ q9 => q9, fun U hU hW => ⟨rfl, trivial⟩⟩ rfl rfl hl.1 rfl (lv_room (Nat.le_of_ble_eq_true rfl)) dX0_sign_78 ⟨Nat.le_of_ble_eq_true rfl, Nat.le_of_ble_eq_true rfl⟩) (fun r_78 hr_78 => ?_)
    subst hr_78
    refine lv_i2l hx hb dX0_sign_81 rfl ?_
    refine lv_topl (fun v_81 ev_81 => ?_)
    have ev_81 : v_81 = lN I9 := ev_81.trans ((nI_l (by omega)).trans (by rw [hI9]))
    subst ev_81
    refine lv_lmul hx hb dX0_sign_82 ?_
    refine lv_topl (fun v_82 ev_82 => ?_)
    have ev_82 : v_82 = lN (S1 * I9) := ev_82.trans (lN_mul _ _)
    subst ev_82
    refine lv_aload_n hx hb dX0_sign_83 rfl (lv_at hl 2 rfl) ?_
    refine va_get (D := (dC, dI)) (ci := 0) (v := .int (nI Q9)) (C := RX0) (T := TX0) (N := 9) hx hb hts (by decide +kernel) hown hK hP 0 rfl rfl 5 (by decide) (hts (.fieldLink RX0 66 "DomainKeys" "domainQ" "I") (by decide +kernel)) (fun _ h9 => h9) rfl dX0_sign_84 ?_
    refine lv_i2l hx hb dX0_sign_87 rfl ?_
    refine lv_topl (fun v_87 ev_87 => ?_)
    have ev_87 : v_87 = lN Q9 := ev_87.trans (nI_l hQ9)
    subst ev_87
    refine lv_lrem hx hb dX0_sign_88 (dk_lne (by omega) (by omega)) ?_
    refine lv_topl (fun v_88 ev_88 => ?_)
    have ev_88 : v_88 = lN S9 := ev_88.trans ((pk_lRem (by omega) (by omega) (by omega)).trans (by rw [hS9]))
    subst ev_88
    refine lv_lstore (lv' := [(9, .long (lN S9)), (7, .long (lN (dk_z a + x9 * R9))), (5, .long (lN R9)), (0, .ref h0), (1, .int (nI j)), (2, .long a), (4, .int (nI k9))]) hx hb dX0_sign_89 hl (by decide) rfl (fun ls hl => ?_)
    refine lv_lload hx hb dX0_sign_91 (lv_at hl 2 rfl) ?_
    refine lv_lconst (v := 0) hx hb dX0_sign_93 (by decide) ?_
    refine W.lcmp hx hb dX0_sign_94 ?_
    refine lv_if_eq (tgt := 105) hx hb dX0_sign_95 (by decide) (fun c_95 => ?_) (fun c_95 => ?_)
    · have hzz : dk_sr (nI P) (nI Q9) (nI G) (nI k9) = 0 ∨ dk_ss (nI P) (nI Q9) (nI G) (se (dk_n (nI j))) (nI k9) a = 0 := by
        left
        rw [hsr]
        exact (pk_lEQ (b := 0) (by omega) (by omega)).mp ((lg_cmp_eq _ _).mp c_95)
      obtain ⟨sa_105, hs_105⟩ := hE.2.2.2.2.1 (120, "r or s is 0") (by decide +kernel)
      refine vx_throwS (own := RX0) (cls := "java/lang/ArithmeticException") (text := "r or s is 0") (names := ["java/lang/RuntimeException", "java/lang/Exception"]) (ik := 118) (is := 120) (ic := 122) (rest := []) hx hb hl9 hown (by decide +kernel) (by decide +kernel) (hts (.classLink RX0 118 "java/lang/ArithmeticException") (by decide +kernel)) (hts (.initialized "java/lang/ArithmeticException") (by decide +kernel)) hs_105 (vx_hat (L := vx_atS RX0 122 "java/lang/ArithmeticException" ["java/lang/RuntimeException", "java/lang/Exception"]) (B := [.castable "java/lang/ArithmeticException" "java/lang/ArithmeticException", .declares (Bundle.initS "java/lang/RuntimeException"), .declares (Bundle.initS "java/lang/Exception"), .declares (Bundle.initS "java/lang/Throwable")]) (fun w hw => hts w ((by decide +kernel : ∀ w ∈ (vx_atS RX0 122 "java/lang/ArithmeticException" ["java/lang/RuntimeException", "java/lang/Exception"]).filter goodWord, w ∈ wsX0_sign) w hw)) (by decide +kernel) (vx_c (va_Nw.use rfl (hE.2.2.1 "java/lang/ArithmeticException" (by decide +kernel))) (vx_c (va_Nw.use rfl (hE.2.2.2.1 "java/lang/RuntimeException" (by decide +kernel))) (vx_c (va_Nw.use rfl (hE.2.2.2.1 "java/lang/Exception" (by decide +kernel))) (vx_c (va_Nw.use rfl (hE.2.2.2.1 "java/lang/Throwable" (by decide +kernel))) (vx_n)))))) (by decide +kernel) hE.1 hE.2.1 hS (hl.1.trans hml.symm) dX0_sign_105 dX0_sign_108 dX0_sign_109 dX0_sign_111 dX0_sign_114 (fun x hx => (hEx x hx).elim) (Nat.le_of_ble_eq_true rfl) (Nat.le_of_ble_eq_true rfl) (Nat.le_of_ble_eq_true rfl) (Nat.le_of_ble_eq_true rfl) hlocks (fun t ha hz hk => ?_) hS.2.2 (Nat.le_of_ble_eq_true rfl) (Nat.le_of_ble_eq_true rfl)
      exact ⟨(cp, cq, cs, cn, nI P, nI Q9, nI G, se, pu), trivial, ⟨⟨rfl, Or.inr (Or.inr ⟨rfl, by rw [dk_fsig, if_neg (fun q => q hhk), if_neg (fun q => q hex), if_pos hzz]⟩)⟩, hP.kept (fun k q hq => hk q.1 (hP k q hq).lt), va_K.moved ha hK, hD⟩, dk_F hS hz hk⟩
    · have hr0 : ¬ R9 = 0 := fun q => c_95 ((lg_cmp_eq _ _).mpr (by rw [q]; rfl))
      refine lv_lload hx hb dX0_sign_98 (lv_at hl 0 rfl) ?_
      refine lv_lconst (v := 0) hx hb dX0_sign_100 (by decide) ?_
      refine W.lcmp hx hb dX0_sign_101 ?_
      refine lv_if_ne (tgt := 115) hx hb dX0_sign_102 (by decide) (fun c_102 => ?_) (fun c_102 => ?_)
      · have hs0 : ¬ S9 = 0 := fun q => c_102 ((lg_cmp_eq _ _).mpr (by rw [q]; rfl))
        refine lv_lload hx hb dX0_sign_115 (lv_at hl 2 rfl) ?_
        refine lv_bipush (v := 32) hx hb dX0_sign_117 (by decide) ?_
        refine lv_lshl hx hb dX0_sign_119 rfl ?_
        refine lv_topl (fun v_119 ev_119 => ?_)
        have ev_119 : v_119 = lN (R9 * 4294967296) := ev_119.trans (wb_shl R9 (k := 32) (by decide))
        subst ev_119
        refine lv_lload hx hb dX0_sign_120 (lv_at hl 0 rfl) ?_
        refine lv_ladd hx hb dX0_sign_122 ?_
        refine lv_topl (fun v_122 ev_122 => ?_)
        have ev_122 : v_122 = lN (R9 * 4294967296 + S9) := ev_122.trans (lN_add _ _)
        subst ev_122
        refine W.widen (k := 2) (n := 12) (Nat.le_of_ble_eq_true rfl) (Nat.le_of_ble_eq_true rfl) ?_
        exact vx_ret (W.lret (v := (lN (R9 * 4294967296 + S9))) hx hb hr (fun t ht hW => ⟨⟨lN (R9 * 4294967296 + S9), (cp, cq, cs, cn, nI P, nI Q9, nI G, se, pu), rfl, ⟨rfl, by rw [dk_fsig, if_neg (fun q => q hhk), if_neg (fun q => q hex), hsr, hss, if_neg (fun q => q.elim hr0 hs0)]⟩, by rw [ht]; exact hP, va_K.moved hW.alike hK, hD⟩, hS.F ht⟩) hS.2.2 dX0_sign_123)
      · have hzz : dk_sr (nI P) (nI Q9) (nI G) (nI k9) = 0 ∨ dk_ss (nI P) (nI Q9) (nI G) (se (dk_n (nI j))) (nI k9) a = 0 := by
          right
          rw [hss]
          exact (pk_lEQ (b := 0) (by omega) (by omega)).mp ((lg_cmp_eq _ _).mp c_102)
        obtain ⟨sa_105, hs_105⟩ := hE.2.2.2.2.1 (120, "r or s is 0") (by decide +kernel)
        refine vx_throwS (own := RX0) (cls := "java/lang/ArithmeticException") (text := "r or s is 0") (names := ["java/lang/RuntimeException", "java/lang/Exception"]) (ik := 118) (is := 120) (ic := 122) (rest := []) hx hb hl9 hown (by decide +kernel) (by decide +kernel) (hts (.classLink RX0 118 "java/lang/ArithmeticException") (by decide +kernel)) (hts (.initialized "java/lang/ArithmeticException") (by decide +kernel)) hs_105 (vx_hat (L := vx_atS RX0 122 "java/lang/ArithmeticException" ["java/lang/RuntimeException", "java/lang/Exception"]) (B := [.castable "java/lang/ArithmeticException" "java/lang/ArithmeticException", .declares (Bundle.initS "java/lang/RuntimeException"), .declares (Bundle.initS "java/lang/Exception"), .declares (Bundle.initS "java/lang/Throwable")]) (fun w hw => hts w ((by decide +kernel : ∀ w ∈ (vx_atS RX0 122 "java/lang/ArithmeticException" ["java/lang/RuntimeException", "java/lang/Exception"]).filter goodWord, w ∈ wsX0_sign) w hw)) (by decide +kernel) (vx_c (va_Nw.use rfl (hE.2.2.1 "java/lang/ArithmeticException" (by decide +kernel))) (vx_c (va_Nw.use rfl (hE.2.2.2.1 "java/lang/RuntimeException" (by decide +kernel))) (vx_c (va_Nw.use rfl (hE.2.2.2.1 "java/lang/Exception" (by decide +kernel))) (vx_c (va_Nw.use rfl (hE.2.2.2.1 "java/lang/Throwable" (by decide +kernel))) (vx_n)))))) (by decide +kernel) hE.1 hE.2.1 hS (hl.1.trans hml.symm) dX0_sign_105 dX0_sign_108 dX0_sign_109 dX0_sign_111 dX0_sign_114 (fun x hx => (hEx x hx).elim) (Nat.le_of_ble_eq_true rfl) (Nat.le_of_ble_eq_true rfl) (Nat.le_of_ble_eq_true rfl) (Nat.le_of_ble_eq_true rfl) hlocks (fun t ha hz hk => ?_) hS.2.2 (Nat.le_of_ble_eq_true rfl) (Nat.le_of_ble_eq_true rfl)
        exact ⟨(cp, cq, cs, cn, nI P, nI Q9, nI G, se, pu), trivial, ⟨⟨rfl, Or.inr (Or.inr ⟨rfl, by rw [dk_fsig, if_neg (fun q => q hhk), if_neg (fun q => q hex), if_pos hzz]⟩)⟩, hP.kept (fun k q hq => hk q.1 (hP k q hq).lt), va_K.moved ha hK, hD⟩, dk_F hS hz hk⟩
  · have hnx : ¬ dk_ex k (nI Q9) := fun q => by
      rw [if_pos q] at c_11
      exact absurd c_11 (by decide)
    obtain ⟨sa_14, hs_14⟩ := hE.2.2.2.2.1 (109, "k is not 1 .. q - 1") (by decide +kernel)
    refine vx_throwS (own := RX0) (cls := "java/lang/IllegalArgumentException") (text := "k is not 1 .. q - 1") (names := ["java/lang/RuntimeException", "java/lang/Exception"]) (ik := 48) (is := 109) (ic := 52) (rest := []) hx hb hl9 hown (by decide +kernel) (by decide +kernel) (hts (.classLink RX0 48 "java/lang/IllegalArgumentException") (by decide +kernel)) (hts (.initialized "java/lang/IllegalArgumentException") (by decide +kernel)) hs_14 (vx_hat (L := vx_atS RX0 52 "java/lang/IllegalArgumentException" ["java/lang/RuntimeException", "java/lang/Exception"]) (B := [.castable "java/lang/IllegalArgumentException" "java/lang/IllegalArgumentException", .declares (Bundle.initS "java/lang/RuntimeException"), .declares (Bundle.initS "java/lang/Exception"), .declares (Bundle.initS "java/lang/Throwable")]) (fun w hw => hts w ((by decide +kernel : ∀ w ∈ (vx_atS RX0 52 "java/lang/IllegalArgumentException" ["java/lang/RuntimeException", "java/lang/Exception"]).filter goodWord, w ∈ wsX0_sign) w hw)) (by decide +kernel) (vx_c (va_Nw.use rfl (hE.2.2.1 "java/lang/IllegalArgumentException" (by decide +kernel))) (vx_c (va_Nw.use rfl (hE.2.2.2.1 "java/lang/RuntimeException" (by decide +kernel))) (vx_c (va_Nw.use rfl (hE.2.2.2.1 "java/lang/Exception" (by decide +kernel))) (vx_c (va_Nw.use rfl (hE.2.2.2.1 "java/lang/Throwable" (by decide +kernel))) (vx_n)))))) (by decide +kernel) hE.1 hE.2.1 hS (hl.1.trans hml.symm) dX0_sign_14 dX0_sign_17 dX0_sign_18 dX0_sign_20 dX0_sign_23 (fun x hx => (hEx x hx).elim) (Nat.le_of_ble_eq_true rfl) (Nat.le_of_ble_eq_true rfl) (Nat.le_of_ble_eq_true rfl) (Nat.le_of_ble_eq_true rfl) hlocks (fun t ha hz hk => ?_) hS.2.2 (Nat.le_of_ble_eq_true rfl) (Nat.le_of_ble_eq_true rfl)
    exact ⟨(cp, cq, cs, cn, nI P, nI Q9, nI G, se, pu), trivial, ⟨⟨rfl, Or.inr (Or.inl ⟨rfl, by rw [dk_fsig, if_neg (fun q => q hhk), if_pos hnx]⟩)⟩, hP.kept (fun k q hq => hk q.1 (hP k q hq).lt), va_K.moved ha hK, hD⟩, dk_F hS hz hk⟩

set_option maxHeartbeats 4000000 in
set_option maxRecDepth 100000 in
theorem dk_c_verify (l : Launch) (hl9 : l.stackTraces = false) (dC : Nat → ClassId) (dI : Nat → Nat → Nat) (h0 h1 h2 : Nat) (a1 a2 : ClassId) (cp cq : Int32) (cs : Int64) (cn dp dq dg : Int32) (se pu : Nat → Int32) (y : Int32) (a : Int64) (r k : Int32) (hI : dk_ID dp dq dg) (sz : Nat) : vx_Met l yX0_verify wsX0_verify ({ frames := 7, cells := 1, slots := 6, locals := 102 }) (va_Pc [.ref h0, .int y, .long a, .int r, .int k] (fun U => U.heap.size = sz ∧ va_P (dC, dI) vwCl [(h0, .inr (0, [.int cp, .int cq, .long cs, .int cn, .int dp, .int dq, .int dg, .ref h1, .ref h2])), (h1, .inl (a1, 8, .inl se)), (h2, .inl (a2, 8, .inl pu))] U.heap ∧ va_K (dC, dI) vwCl [(a1, .int), (a2, .int)] U ∧ va_D (fun _ => True) [(h0, .inr (0, [.int cp, .int cq, .long cs, .int cn, .int dp, .int dq, .int dg, .ref h1, .ref h2])), (h1, .inl (a1, 8, .inl se)), (h2, .inl (a2, 8, .inl pu))] ∧ dk_E (va_A [(h0, .inr (0, [.int cp, .int cq, .long cs, .int cn, .int dp, .int dq, .int dg, .ref h1, .ref h2])), (h1, .inl (a1, 8, .inl se)), (h2, .inl (a2, 8, .inl pu))] sz) U U.heap)) (va_Qi (fun (r9 : Int32) (u9 : dk_S) => u9 = (cp, cq, cs, cn, dp, dq, dg, se, pu) ∧ dk_fver dp dq dg y a r k = (0, r9)) (dk_B dC dI (va_A [(h0, .inr (0, [.int cp, .int cq, .long cs, .int cn, .int dp, .int dq, .int dg, .ref h1, .ref h2])), (h1, .inl (a1, 8, .inl se)), (h2, .inl (a2, 8, .inl pu))] sz) h0 h1 h2 a1 a2) (va_A [(h0, .inr (0, [.int cp, .int cq, .long cs, .int cn, .int dp, .int dq, .int dg, .ref h1, .ref h2])), (h1, .inl (a1, 8, .inl se)), (h2, .inl (a2, 8, .inl pu))] sz)) (vx_X (fun _ : dk_S => True) (fun E9 u9 t9 => (u9 = (cp, cq, cs, cn, dp, dq, dg, se, pu) ∧ E9 = "java/lang/IllegalStateException" ∧ dk_fver dp dq dg y a r k = (1, 0)) ∧ dk_B dC dI (va_A [(h0, .inr (0, [.int cp, .int cq, .long cs, .int cn, .int dp, .int dq, .int dg, .ref h1, .ref h2])), (h1, .inl (a1, 8, .inl se)), (h2, .inl (a2, 8, .inl pu))] sz) h0 h1 h2 a1 a2 u9 t9) (va_A [(h0, .inr (0, [.int cp, .int cq, .long cs, .int cn, .int dp, .int dq, .int dg, .ref h1, .ref h2])), (h1, .inl (a1, 8, .inl se)), (h2, .inl (a2, 8, .inl pu))] sz)) 1 6 (va_A [(h0, .inr (0, [.int cp, .int cq, .long cs, .int cn, .int dp, .int dq, .int dg, .ref h1, .ref h2])), (h1, .inl (a1, 8, .inl se)), (h2, .inl (a2, 8, .inl pu))] sz) := by
  refine vx_ofW (cc := cX0_verify) (maxL := 12) (ret := (some .boolean)) (by decide) rfl ?_
  intro p e s m args below meth c s₁ B hml hEx hv
  obtain ⟨rfl, hsz, hP, hK, hD0, hE⟩ := hv
  have hx := B.exec
  have hb := B.bytes
  have hr := B.returns
  have hts := atoms_spec (ws := wsX0_verify) B.pre
  have hown : s.vm.findClass RX0 = some m.cls := findClass_of_methodNamed B.named
  have hlocks := B.notSynchronized
  subst hsz
  have hD := hD0.self (sz := s.heap.size)
  generalize hAe : va_A [(h0, .inr (0, [.int cp, .int cq, .long cs, .int cn, .int dp, .int dq, .int dg, .ref h1, .ref h2])), (h1, .inl (a1, 8, .inl se)), (h2, .inl (a2, 8, .inl pu))] s.heap.size = A at hD hE ⊢
  have hA : ∀ q : Nat, s.heap.size ≤ q → A q := fun q h => by rw [← hAe]; exact Or.inr h
  have hS : va_S A s.heap s.heap [] := va_S.rf
  have hl := lv_entry ([.ref h0, .int y, .long a, .int r, .int k]) (n := 12) (Nat.le_of_ble_eq_true rfl)
  rw [lg_entry_eq]
  generalize (lg_sl ([.ref h0, .int y, .long a, .int r, .int k]) ++ List.replicate (12 - (lg_sl ([.ref h0, .int y, .long a, .int r, .int k])).length) Slot.unset).toArray = ls at hl ⊢
  have hl : lv_has ls 12 [(0, .ref h0), (1, .int y), (2, .long a), (4, .int r), (5, .int k)] := hl
  refine lv_aload_n hx hb dX0_verify_0 rfl (lv_at hl 0 rfl) ?_
  have hPc := hP.sub (ws' := [(h0, .inr (0, [.int cp, .int cq, .long cs, .int cn, .int dp, .int dq, .int dg, .ref h1, .ref h2])), (h1, .inl (a1, 8, .inl se)), (h2, .inl (a2, 8, .inl pu))]) [0, 1, 2] rfl
  have hDc := hD.sub (ws' := [(h0, .inr (0, [.int cp, .int cq, .long cs, .int cn, .int dp, .int dq, .int dg, .ref h1, .ref h2])), (h1, .inl (a1, 8, .inl se)), (h2, .inl (a2, 8, .inl pu))]) [0, 1, 2] (by decide) rfl
  have hKc := hK.sub (tys' := [(a1, .int), (a2, .int)]) [0, 1] rfl
  have hFc := va_free (wc := [(h0, .inr (0, [.int cp, .int cq, .long cs, .int cn, .int dp, .int dq, .int dg, .ref h1, .ref h2])), (h1, .inl (a1, 8, .inl se)), (h2, .inl (a2, 8, .inl pu))]) hD hS hA [0, 1, 2] rfl
  refine vx_callv (vx_runV (As := []) (rest := []) ⟨hx, hb, hml, hown, hts⟩ (dk_c_requireDomain l hl9 dC dI h0 h1 h2 a1 a2 cp cq cs cn dp dq dg se pu  _) (cwV 0 hts gX0_verify_X0_requireDomain rfl rfl rfl (by decide +kernel) ⟨Nat.le_of_ble_eq_true rfl, Nat.le_of_ble_eq_true rfl⟩) ⟨fun a U g mk q => by obtain ⟨q0, q1, qP, qK, qD, qE⟩ := q; exact ⟨q0, q1, qP, va_K.moved (u := U) (U := U.calling g mk a) (Vm.Alike.refl U.vm) qK, qD, qE.blind⟩, va_recv hKc hPc (ci := 0) (q0 := 0) rfl rfl, fun U hU hW => ⟨rfl, by rw [hU], by rw [hU]; exact hPc, va_K.moved hW.alike hKc, hDc.weaken (fun _ _ _ _ => trivial), hE.go hS hFc hU hW⟩⟩ rfl rfl hl.1 rfl (lv_room (Nat.le_of_ble_eq_true rfl)) dX0_verify_1 ⟨Nat.le_of_ble_eq_true rfl, Nat.le_of_ble_eq_true rfl⟩) hS (fun q _ h => hFc q h) hFc (fun q _ h => hFc q h) (fun E9 ce q9 u t H1 locs ht hvm hw hB hz1 hk1 hS hce hcv hcl => ?_) (fun u t H1 locs ht hvm hw hB hz1 hk1 hS => ?_)
  · obtain ⟨hEc, hB⟩ := hB
    obtain ⟨rfl, hE9, hnd⟩ := hEc
    obtain ⟨hP1, hK1, hD1⟩ := hB
    rw [ht] at hP1
    have hK1 := va_K.moved hvm.symm hK1
    obtain ⟨hP, hD⟩ := va_join (wr := []) (w1 := [(h0, .inr (0, [.int cp, .int cq, .long cs, .int cn, .int dp, .int dq, .int dg, .ref h1, .ref h2])), (h1, .inl (a1, 8, .inl se)), (h2, .inl (a2, 8, .inl pu))]) hP hD [0, 1, 2] [] rfl rfl (by decide) (by decide) hk1 hFc hP1 hD1
    have hK := (hK.sub (tys' := []) [] rfl).app hK1
    generalize H1 = H at hP hS hce ⊢
    have hP : va_P (dC, dI) vwCl [(h0, .inr (0, [.int cp, .int cq, .long cs, .int cn, .int dp, .int dq, .int dg, .ref h1, .ref h2])), (h1, .inl (a1, 8, .inl se)), (h2, .inl (a2, 8, .inl pu))] H := hP
    have hD : va_D A [(h0, .inr (0, [.int cp, .int cq, .long cs, .int cn, .int dp, .int dq, .int dg, .ref h1, .ref h2])), (h1, .inl (a1, 8, .inl se)), (h2, .inl (a2, 8, .inl pu))] := hD
    have hK : va_K (dC, dI) vwCl [(a1, .int), (a2, .int)] s := hK
    exact vx_out (E := E9) (fun x hx => (hEx x hx).elim) hlocks hce hcv hcl (fun t ht ha => ⟨(cp, cq, cs, cn, dp, dq, dg, se, pu), trivial, ⟨⟨rfl, hE9, by rw [dk_fver, if_pos hnd]⟩, by rw [ht]; exact hP, va_K.moved ha hK, hD⟩, hS.F ht⟩) hS.2.2 (Nat.le_of_ble_eq_true rfl) (Nat.le_of_ble_eq_true rfl)
  obtain ⟨rfl, hdp⟩ := hw
  obtain ⟨P, Q9, G, hP9, hQ9, hdom, rfl, rfl, rfl⟩ := hI.resolve_left (fun q => hdp q.1)
  obtain ⟨hs1, hs2, hs3, hs4, hs5, hs6⟩ := dk_dom_sz hP9 hdom
  obtain ⟨hP1, hK1, hD1⟩ := hB
  rw [ht] at hP1
  have hK1 := va_K.moved hvm.symm hK1
  obtain ⟨hP, hD⟩ := va_join (wr := []) (w1 := [(h0, .inr (0, [.int cp, .int cq, .long cs, .int cn, .int (nI P), .int (nI Q9), .int (nI G), .ref h1, .ref h2])), (h1, .inl (a1, 8, .inl se)), (h2, .inl (a2, 8, .inl pu))]) hP hD [0, 1, 2] [] rfl rfl (by decide) (by decide) hk1 hFc hP1 hD1
  have hK := (hK.sub (tys' := []) [] rfl).app hK1
  generalize H1 = H at hP hS ⊢
  have hP : va_P (dC, dI) vwCl [(h0, .inr (0, [.int cp, .int cq, .long cs, .int cn, .int (nI P), .int (nI Q9), .int (nI G), .ref h1, .ref h2])), (h1, .inl (a1, 8, .inl se)), (h2, .inl (a2, 8, .inl pu))] H := hP
  have hD : va_D A [(h0, .inr (0, [.int cp, .int cq, .long cs, .int cn, .int (nI P), .int (nI Q9), .int (nI G), .ref h1, .ref h2])), (h1, .inl (a1, 8, .inl se)), (h2, .inl (a2, 8, .inl pu))] := hD
  have hK : va_K (dC, dI) vwCl [(a1, .int), (a2, .int)] s := hK
  refine lv_iload_n hx hb dX0_verify_4 rfl (lv_at hl 1 rfl) ?_
  refine lv_iconst (v := 1) hx hb dX0_verify_5 (by decide) ?_
  refine lv_icmp_lt (tgt := 35) hx hb dX0_verify_6 (by decide) (fun c_6 => ?_) (fun c_6 => ?_)
  · have hno : ¬ ((1 ≤ y ∧ y < nI P) ∧ dk_ex r (nI Q9) ∧ dk_ex k (nI Q9) ∧ dk_n r = dk_vv (nI P) (nI Q9) (nI G) y a r k) := fun q => dk_not_lt.mpr q.1.1 c_6
    refine lv_iconst (v := 0) hx hb dX0_verify_35 (by decide) ?_
    exact vx_ret (W.zret (v := 0) (ty := .boolean) hx hb hr rfl (fun t ht hW => ⟨⟨0, (cp, cq, cs, cn, nI P, nI Q9, nI G, se, pu), rfl, ⟨rfl, by rw [dk_fver, if_neg hdp, if_neg hno]⟩, by rw [ht]; exact hP, va_K.moved hW.alike hK, hD⟩, hS.F ht⟩) hS.2.2 dX0_verify_36)
  · refine lv_iload_n hx hb dX0_verify_9 rfl (lv_at hl 1 rfl) ?_
    refine lv_aload_n hx hb dX0_verify_10 rfl (lv_at hl 0 rfl) ?_
    refine va_get (D := (dC, dI)) (ci := 0) (v := .int (nI P)) (C := RX0) (T := TX0) (N := 9) hx hb hts (by decide +kernel) hown hK hP 0 rfl rfl 4 (by decide) (hts (.fieldLink RX0 63 "DomainKeys" "domainP" "I") (by decide +kernel)) (fun _ h9 => h9) rfl dX0_verify_11 ?_
    refine lv_icmp_ge (tgt := 35) hx hb dX0_verify_14 (by decide) (fun c_14 => ?_) (fun c_14 => ?_)
    · have hno : ¬ ((1 ≤ y ∧ y < nI P) ∧ dk_ex r (nI Q9) ∧ dk_ex k (nI Q9) ∧ dk_n r = dk_vv (nI P) (nI Q9) (nI G) y a r k) := fun q => dk_not_lt.mpr c_14 q.1.2
      refine lv_iconst (v := 0) hx hb dX0_verify_35 (by decide) ?_
      exact vx_ret (W.zret (v := 0) (ty := .boolean) hx hb hr rfl (fun t ht hW => ⟨⟨0, (cp, cq, cs, cn, nI P, nI Q9, nI G, se, pu), rfl, ⟨rfl, by rw [dk_fver, if_neg hdp, if_neg hno]⟩, by rw [ht]; exact hP, va_K.moved hW.alike hK, hD⟩, hS.F ht⟩) hS.2.2 dX0_verify_36)
    · refine lv_aload_n hx hb dX0_verify_17 rfl (lv_at hl 0 rfl) ?_
      refine lv_iload hx hb dX0_verify_18 (lv_at hl 3 rfl) ?_
      have hPc := hP.sub (ws' := [(h0, .inr (0, [.int cp, .int cq, .long cs, .int cn, .int (nI P), .int (nI Q9), .int (nI G), .ref h1, .ref h2])), (h1, .inl (a1, 8, .inl se)), (h2, .inl (a2, 8, .inl pu))]) [0, 1, 2] rfl
      have hKc := hK.sub (tys' := [(a1, .int), (a2, .int)]) [0, 1] rfl
      refine vp_callSi (W.runV (As := [.int r]) (rest := []) ⟨hx, hb, hml, hown, hts⟩ (dk_c_isExponent l dC dI h0 h1 h2 a1 a2 cp cq cs cn (nI P) (nI Q9) (nI G) se pu r) (cwV 1 hts gX0_verify_X0_isExponent rfl rfl rfl (by decide +kernel) ⟨Nat.le_of_ble_eq_true rfl, Nat.le_of_ble_eq_true rfl⟩) ⟨fun a U g mk q => by obtain ⟨q0, qP, qK⟩ := q; exact ⟨q0, qP, va_K.moved (u := U) (U := U.calling g mk a) (Vm.Alike.refl U.vm) qK⟩, va_recv hKc hPc (ci := 0) (q0 := 0) rfl rfl, fun U hU hW => ⟨rfl, by rw [hU]; exact hPc, va_K.moved hW.alike hKc⟩⟩ rfl rfl hl.1 rfl (lv_room (Nat.le_of_ble_eq_true rfl)) dX0_verify_20 ⟨Nat.le_of_ble_eq_true rfl, Nat.le_of_ble_eq_true rfl⟩) (fun r_20 hr_20 => ?_)
      subst hr_20
      refine lv_if_eq (tgt := 35) hx hb dX0_verify_23 (by decide) (fun c_23 => ?_) (fun c_23 => ?_)
      · have hno : ¬ ((1 ≤ y ∧ y < nI P) ∧ dk_ex r (nI Q9) ∧ dk_ex k (nI Q9) ∧ dk_n r = dk_vv (nI P) (nI Q9) (nI G) y a r k) := fun q => by
          rw [if_pos q.2.1] at c_23
          exact absurd c_23 (by decide)
        refine lv_iconst (v := 0) hx hb dX0_verify_35 (by decide) ?_
        exact vx_ret (W.zret (v := 0) (ty := .boolean) hx hb hr rfl (fun t ht hW => ⟨⟨0, (cp, cq, cs, cn, nI P, nI Q9, nI G, se, pu), rfl, ⟨rfl, by rw [dk_fver, if_neg hdp, if_neg hno]⟩, by rw [ht]; exact hP, va_K.moved hW.alike hK, hD⟩, hS.F ht⟩) hS.2.2 dX0_verify_36)
      · refine lv_aload_n hx hb dX0_verify_26 rfl (lv_at hl 0 rfl) ?_
        refine lv_iload hx hb dX0_verify_27 (lv_at hl 4 rfl) ?_
        have hPc := hP.sub (ws' := [(h0, .inr (0, [.int cp, .int cq, .long cs, .int cn, .int (nI P), .int (nI Q9), .int (nI G), .ref h1, .ref h2])), (h1, .inl (a1, 8, .inl se)), (h2, .inl (a2, 8, .inl pu))]) [0, 1, 2] rfl
        have hKc := hK.sub (tys' := [(a1, .int), (a2, .int)]) [0, 1] rfl
        refine vp_callSi (W.runV (As := [.int k]) (rest := []) ⟨hx, hb, hml, hown, hts⟩ (dk_c_isExponent l dC dI h0 h1 h2 a1 a2 cp cq cs cn (nI P) (nI Q9) (nI G) se pu k) (cwV 1 hts gX0_verify_X0_isExponent rfl rfl rfl (by decide +kernel) ⟨Nat.le_of_ble_eq_true rfl, Nat.le_of_ble_eq_true rfl⟩) ⟨fun a U g mk q => by obtain ⟨q0, qP, qK⟩ := q; exact ⟨q0, qP, va_K.moved (u := U) (U := U.calling g mk a) (Vm.Alike.refl U.vm) qK⟩, va_recv hKc hPc (ci := 0) (q0 := 0) rfl rfl, fun U hU hW => ⟨rfl, by rw [hU]; exact hPc, va_K.moved hW.alike hKc⟩⟩ rfl rfl hl.1 rfl (lv_room (Nat.le_of_ble_eq_true rfl)) dX0_verify_29 ⟨Nat.le_of_ble_eq_true rfl, Nat.le_of_ble_eq_true rfl⟩) (fun r_29 hr_29 => ?_)
        subst hr_29
        refine lv_if_ne (tgt := 37) hx hb dX0_verify_32 (by decide) (fun c_32 => ?_) (fun c_32 => ?_)
        · have hexr : dk_ex r (nI Q9) := by
            by_cases q : dk_ex r (nI Q9)
            · exact q
            · exact absurd (if_neg q) c_23
          have hexs : dk_ex k (nI Q9) := by
            by_cases q : dk_ex k (nI Q9)
            · exact q
            · exact absurd (if_neg q) c_32
          have hyy : 1 ≤ y ∧ y < nI P := ⟨dk_not_lt.mp c_6, dk_not_le.mp c_14⟩
          obtain ⟨y9, hy1, hy2, rfl⟩ := dk_ex_of hP9 hyy
          obtain ⟨r8, hr81, hr82, rfl⟩ := dk_ex_of hQ9 hexr
          obtain ⟨k9, hk91, hk92, rfl⟩ := dk_ex_of hQ9 hexs
          have hzl := dk_z_lt a
          obtain ⟨W8, hW8⟩ : ∃ W8 : Nat, W8 = k9 ^ (Q9 - 2) % Q9 := ⟨_, rfl⟩
          have hWlt : W8 < Q9 := by rw [hW8]; exact Nat.mod_lt _ (by omega)
          have hzw : dk_z a * W8 ≤ 32768 * 1073741824 := Nat.mul_le_mul (by omega) (by omega)
          have hrw9 : r8 * W8 ≤ 1073741824 * 1073741824 := Nat.mul_le_mul (by omega) (by omega)
          obtain ⟨A8, hA8⟩ : ∃ A8 : Nat, A8 = dk_z a * W8 % Q9 := ⟨_, rfl⟩
          have hAlt : A8 < Q9 := by rw [hA8]; exact Nat.mod_lt _ (by omega)
          obtain ⟨B8, hB8⟩ : ∃ B8 : Nat, B8 = r8 * W8 % Q9 := ⟨_, rfl⟩
          have hBlt : B8 < Q9 := by rw [hB8]; exact Nat.mod_lt _ (by omega)
          obtain ⟨C8, hC8⟩ : ∃ C8 : Nat, C8 = G ^ A8 % P := ⟨_, rfl⟩
          have hClt : C8 < P := by rw [hC8]; exact Nat.mod_lt _ (by omega)
          obtain ⟨D8, hD8⟩ : ∃ D8 : Nat, D8 = y9 ^ B8 % P := ⟨_, rfl⟩
          have hDlt : D8 < P := by rw [hD8]; exact Nat.mod_lt _ (by omega)
          have hcd : C8 * D8 ≤ 2147483648 * 2147483648 := Nat.mul_le_mul (by omega) (by omega)
          have hpl : C8 * D8 % P < P := Nat.mod_lt _ (by omega)
          have hvl : C8 * D8 % P % Q9 < Q9 := Nat.mod_lt _ (by omega)
          have hvw : dk_vw (nI Q9) (nI k9) = W8 := by rw [dk_vw, dk_n_nI (by omega), dk_n_nI hQ9, ← hW8]
          have hvv : dk_vv (nI P) (nI Q9) (nI G) (nI y9) a (nI r8) (nI k9) = C8 * D8 % P % Q9 := by rw [dk_vv, hvw, dk_n_nI (show G < 2147483648 by omega), dk_n_nI (show y9 < 2147483648 by omega), dk_n_nI (show r8 < 2147483648 by omega), dk_n_nI hP9, dk_n_nI hQ9, ← hA8, ← hB8, ← hC8, ← hD8]
          have hrn : dk_n (nI r8) = r8 := dk_n_nI (by omega)
          refine lv_iload hx hb dX0_verify_37 (lv_at hl 4 rfl) ?_
          refine lv_aload_n hx hb dX0_verify_39 rfl (lv_at hl 0 rfl) ?_
          refine va_get (D := (dC, dI)) (ci := 0) (v := .int (nI Q9)) (C := RX0) (T := TX0) (N := 9) hx hb hts (by decide +kernel) hown hK hP 0 rfl rfl 5 (by decide) (hts (.fieldLink RX0 66 "DomainKeys" "domainQ" "I") (by decide +kernel)) (fun _ h9 => h9) rfl dX0_verify_40 ?_
          refine vp_callSi (W.runS (As := [.int (nI k9), .int (nI Q9)]) (rest := []) ⟨hx, hb, hml, hown, hts⟩ (dk_c_inverse l k9 Q9 (by omega) (by omega) hQ9) (va_cwS 2 hts gX0_verify_X0_inverse rfl rfl rfl (by decide +kernel) ⟨Nat.le_of_ble_eq_true rfl, Nat.le_of_ble_eq_true rfl⟩) ⟨fun _ _ _ _ q9 => q9, fun U hU hW => ⟨rfl, trivial⟩⟩ rfl rfl hl.1 rfl (lv_room (Nat.le_of_ble_eq_true rfl)) dX0_verify_43 ⟨Nat.le_of_ble_eq_true rfl, Nat.le_of_ble_eq_true rfl⟩) (fun r_43 hr_43 => ?_)
          subst hr_43
          refine lv_i2l hx hb dX0_verify_46 rfl ?_
          refine lv_topl (fun v_46 ev_46 => ?_)
          have ev_46 : v_46 = lN W8 := ev_46.trans ((nI_l (by omega)).trans (by rw [hW8]))
          subst ev_46
          refine lv_lstore (lv' := [(6, .long (lN W8)), (0, .ref h0), (1, .int (nI y9)), (2, .long a), (4, .int (nI r8)), (5, .int (nI k9))]) hx hb dX0_verify_47 hl (by decide) rfl (fun ls hl => ?_)
          refine lv_aload_n hx hb dX0_verify_49 rfl (lv_at hl 1 rfl) ?_
          refine lv_lload_n hx hb dX0_verify_50 rfl (lv_at hl 3 rfl) ?_
          refine vp_callSi (W.runV (As := [.long a]) (rest := []) ⟨hx, hb, hml, hown, hts⟩ (dk_c_digest l h0 a) (cwV 1 hts gX0_verify_X0_digest rfl rfl rfl (by decide +kernel) ⟨Nat.le_of_ble_eq_true rfl, Nat.le_of_ble_eq_true rfl⟩) ⟨fun _ _ _ _ q9 => q9, va_recv hK hP (ci := 0) (q0 := 0) rfl rfl, fun U hU hW => ⟨rfl, trivial⟩⟩ rfl rfl hl.1 rfl (lv_room (Nat.le_of_ble_eq_true rfl)) dX0_verify_51 ⟨Nat.le_of_ble_eq_true rfl, Nat.le_of_ble_eq_true rfl⟩) (fun r_51 hr_51 => ?_)
          subst hr_51
          refine lv_i2l hx hb dX0_verify_54 rfl ?_
          refine lv_topl (fun v_54 ev_54 => ?_)
          have ev_54 : v_54 = lN (dk_z a) := ev_54.trans (nI_l (by omega))
          subst ev_54
          refine lv_lload hx hb dX0_verify_55 (lv_at hl 0 rfl) ?_
          refine lv_lmul hx hb dX0_verify_57 ?_
          refine lv_topl (fun v_57 ev_57 => ?_)
          have ev_57 : v_57 = lN (dk_z a * W8) := ev_57.trans (lN_mul _ _)
          subst ev_57
          refine lv_aload_n hx hb dX0_verify_58 rfl (lv_at hl 1 rfl) ?_
          refine va_get (D := (dC, dI)) (ci := 0) (v := .int (nI Q9)) (C := RX0) (T := TX0) (N := 9) hx hb hts (by decide +kernel) hown hK hP 0 rfl rfl 5 (by decide) (hts (.fieldLink RX0 66 "DomainKeys" "domainQ" "I") (by decide +kernel)) (fun _ h9 => h9) rfl dX0_verify_59 ?_
          refine lv_i2l hx hb dX0_verify_62 rfl ?_
          refine lv_topl (fun v_62 ev_62 => ?_)
          have ev_62 : v_62 = lN Q9 := ev_62.trans (nI_l hQ9)
          subst ev_62
          refine lv_lrem hx hb dX0_verify_63 (dk_lne (by omega) (by omega)) ?_
          refine lv_topl (fun v_63 ev_63 => ?_)
          have ev_63 : v_63 = lN A8 := ev_63.trans ((pk_lRem (by omega) (by omega) (by omega)).trans (by rw [hA8]))
          subst ev_63
          refine lv_l2i hx hb dX0_verify_64 rfl ?_
          refine lv_topi (fun v_64 ev_64 => ?_)
          have ev_64 : v_64 = nI A8 := ev_64.trans (lN_i _)
          subst ev_64
          refine lv_istore (lv' := [(8, .int (nI A8)), (6, .long (lN W8)), (0, .ref h0), (1, .int (nI y9)), (2, .long a), (4, .int (nI r8)), (5, .int (nI k9))]) hx hb dX0_verify_65 hl (by decide) rfl (fun ls hl => ?_)
          refine lv_iload hx hb dX0_verify_67 (lv_at hl 5 rfl) ?_
          refine lv_i2l hx hb dX0_verify_69 rfl ?_
          refine lv_topl (fun v_69 ev_69 => ?_)
          have ev_69 : v_69 = lN r8 := ev_69.trans (nI_l (by omega))
          subst ev_69
          refine lv_lload hx hb dX0_verify_70 (lv_at hl 1 rfl) ?_
          refine lv_lmul hx hb dX0_verify_72 ?_
          refine lv_topl (fun v_72 ev_72 => ?_)
          have ev_72 : v_72 = lN (r8 * W8) := ev_72.trans (lN_mul _ _)
          subst ev_72
          refine lv_aload_n hx hb dX0_verify_73 rfl (lv_at hl 2 rfl) ?_
          refine va_get (D := (dC, dI)) (ci := 0) (v := .int (nI Q9)) (C := RX0) (T := TX0) (N := 9) hx hb hts (by decide +kernel) hown hK hP 0 rfl rfl 5 (by decide) (hts (.fieldLink RX0 66 "DomainKeys" "domainQ" "I") (by decide +kernel)) (fun _ h9 => h9) rfl dX0_verify_74 ?_
          refine lv_i2l hx hb dX0_verify_77 rfl ?_
          refine lv_topl (fun v_77 ev_77 => ?_)
          have ev_77 : v_77 = lN Q9 := ev_77.trans (nI_l hQ9)
          subst ev_77
          refine lv_lrem hx hb dX0_verify_78 (dk_lne (by omega) (by omega)) ?_
          refine lv_topl (fun v_78 ev_78 => ?_)
          have ev_78 : v_78 = lN B8 := ev_78.trans ((pk_lRem (by omega) (by omega) (by omega)).trans (by rw [hB8]))
          subst ev_78
          refine lv_l2i hx hb dX0_verify_79 rfl ?_
          refine lv_topi (fun v_79 ev_79 => ?_)
          have ev_79 : v_79 = nI B8 := ev_79.trans (lN_i _)
          subst ev_79
          refine lv_istore (lv' := [(9, .int (nI B8)), (8, .int (nI A8)), (6, .long (lN W8)), (0, .ref h0), (1, .int (nI y9)), (2, .long a), (4, .int (nI r8)), (5, .int (nI k9))]) hx hb dX0_verify_80 hl (by decide) rfl (fun ls hl => ?_)
          refine lv_aload_n hx hb dX0_verify_82 rfl (lv_at hl 3 rfl) ?_
          refine va_get (D := (dC, dI)) (ci := 0) (v := .int (nI G)) (C := RX0) (T := TX0) (N := 9) hx hb hts (by decide +kernel) hown hK hP 0 rfl rfl 6 (by decide) (hts (.fieldLink RX0 69 "DomainKeys" "domainG" "I") (by decide +kernel)) (fun _ h9 => h9) rfl dX0_verify_83 ?_
          refine lv_iload hx hb dX0_verify_86 (lv_at hl 1 rfl) ?_
          refine lv_aload_n hx hb dX0_verify_88 rfl (lv_at hl 3 rfl) ?_
          refine va_get (D := (dC, dI)) (ci := 0) (v := .int (nI P)) (C := RX0) (T := TX0) (N := 9) hx hb hts (by decide +kernel) hown hK hP 0 rfl rfl 4 (by decide) (hts (.fieldLink RX0 63 "DomainKeys" "domainP" "I") (by decide +kernel)) (fun _ h9 => h9) rfl dX0_verify_89 ?_
          refine vp_callSi (W.runS (As := [.int (nI G), .int (nI A8), .int (nI P)]) (rest := []) ⟨hx, hb, hml, hown, hts⟩ (dk_c_power l G A8 P (by omega) (by omega) (by omega) hP9) (va_cwS 3 hts gX0_verify_X0_power rfl rfl rfl (by decide +kernel) ⟨Nat.le_of_ble_eq_true rfl, Nat.le_of_ble_eq_true rfl⟩) ⟨fun _ _ _ _ q9 => q9, fun U hU hW => ⟨rfl, trivial⟩⟩ rfl rfl hl.1 rfl (lv_room (Nat.le_of_ble_eq_true rfl)) dX0_verify_92 ⟨Nat.le_of_ble_eq_true rfl, Nat.le_of_ble_eq_true rfl⟩) (fun r_92 hr_92 => ?_)
          subst hr_92
          refine lv_i2l hx hb dX0_verify_95 rfl ?_
          refine lv_topl (fun v_95 ev_95 => ?_)
          have ev_95 : v_95 = lN C8 := ev_95.trans ((nI_l (by omega)).trans (by rw [hC8]))
          subst ev_95
          refine lv_iload_n hx hb dX0_verify_96 rfl (lv_at hl 4 rfl) ?_
          refine lv_iload hx hb dX0_verify_97 (lv_at hl 0 rfl) ?_
          refine lv_aload_n hx hb dX0_verify_99 rfl (lv_at hl 3 rfl) ?_
          refine va_get (D := (dC, dI)) (ci := 0) (v := .int (nI P)) (C := RX0) (T := TX0) (N := 9) hx hb hts (by decide +kernel) hown hK hP 0 rfl rfl 4 (by decide) (hts (.fieldLink RX0 63 "DomainKeys" "domainP" "I") (by decide +kernel)) (fun _ h9 => h9) rfl dX0_verify_100 ?_
          refine vp_callSi (W.runS (As := [.int (nI y9), .int (nI B8), .int (nI P)]) (rest := [.long (lN C8)]) ⟨hx, hb, hml, hown, hts⟩ (dk_c_power l y9 B8 P (by omega) (by omega) (by omega) hP9) (va_cwS 3 hts gX0_verify_X0_power rfl rfl rfl (by decide +kernel) ⟨Nat.le_of_ble_eq_true rfl, Nat.le_of_ble_eq_true rfl⟩) ⟨fun _ _ _ _ q9 => q9, fun U hU hW => ⟨rfl, trivial⟩⟩ rfl rfl hl.1 rfl (lv_room (Nat.le_of_ble_eq_true rfl)) dX0_verify_103 ⟨Nat.le_of_ble_eq_true rfl, Nat.le_of_ble_eq_true rfl⟩) (fun r_103 hr_103 => ?_)
          subst hr_103
          refine lv_i2l hx hb dX0_verify_106 rfl ?_
          refine lv_topl (fun v_106 ev_106 => ?_)
          have ev_106 : v_106 = lN D8 := ev_106.trans ((nI_l (by omega)).trans (by rw [hD8]))
          subst ev_106
          refine lv_lmul hx hb dX0_verify_107 ?_
          refine lv_topl (fun v_107 ev_107 => ?_)
          have ev_107 : v_107 = lN (C8 * D8) := ev_107.trans (lN_mul _ _)
          subst ev_107
          refine lv_aload_n hx hb dX0_verify_108 rfl (lv_at hl 3 rfl) ?_
          refine va_get (D := (dC, dI)) (ci := 0) (v := .int (nI P)) (C := RX0) (T := TX0) (N := 9) hx hb hts (by decide +kernel) hown hK hP 0 rfl rfl 4 (by decide) (hts (.fieldLink RX0 63 "DomainKeys" "domainP" "I") (by decide +kernel)) (fun _ h9 => h9) rfl dX0_verify_109 ?_
          refine lv_i2l hx hb dX0_verify_112 rfl ?_
          refine lv_topl (fun v_112 ev_112 => ?_)
          have ev_112 : v_112 = lN P := ev_112.trans (nI_l hP9)
          subst ev_112
          refine lv_lrem hx hb dX0_verify_113 (dk_lne (by omega) (by omega)) ?_
          refine lv_topl (fun v_113 ev_113 => ?_)
          have ev_113 : v_113 = lN (C8 * D8 % P) := ev_113.trans (pk_lRem (by omega) (by omega) (by omega))
          subst ev_113
          refine lv_lstore (lv' := [(10, .long (lN (C8 * D8 % P))), (9, .int (nI B8)), (8, .int (nI A8)), (6, .long (lN W8)), (0, .ref h0), (1, .int (nI y9)), (2, .long a), (4, .int (nI r8)), (5, .int (nI k9))]) hx hb dX0_verify_114 hl (by decide) rfl (fun ls hl => ?_)
          refine lv_iload hx hb dX0_verify_116 (lv_at hl 7 rfl) ?_
          refine lv_i2l hx hb dX0_verify_118 rfl ?_
          refine lv_topl (fun v_118 ev_118 => ?_)
          have ev_118 : v_118 = lN r8 := ev_118.trans (nI_l (by omega))
          subst ev_118
          refine lv_lload hx hb dX0_verify_119 (lv_at hl 0 rfl) ?_
          refine lv_aload_n hx hb dX0_verify_121 rfl (lv_at hl 4 rfl) ?_
          refine va_get (D := (dC, dI)) (ci := 0) (v := .int (nI Q9)) (C := RX0) (T := TX0) (N := 9) hx hb hts (by decide +kernel) hown hK hP 0 rfl rfl 5 (by decide) (hts (.fieldLink RX0 66 "DomainKeys" "domainQ" "I") (by decide +kernel)) (fun _ h9 => h9) rfl dX0_verify_122 ?_
          refine lv_i2l hx hb dX0_verify_125 rfl ?_
          refine lv_topl (fun v_125 ev_125 => ?_)
          have ev_125 : v_125 = lN Q9 := ev_125.trans (nI_l hQ9)
          subst ev_125
          refine lv_lrem hx hb dX0_verify_126 (dk_lne (by omega) (by omega)) ?_
          refine lv_topl (fun v_126 ev_126 => ?_)
          have ev_126 : v_126 = lN (C8 * D8 % P % Q9) := ev_126.trans (pk_lRem (by omega) (by omega) (by omega))
          subst ev_126
          refine W.lcmp hx hb dX0_verify_127 ?_
          refine lv_if_ne (tgt := 135) hx hb dX0_verify_128 (by decide) (fun c_128 => ?_) (fun c_128 => ?_)
          · have hno : ¬ ((1 ≤ nI y9 ∧ nI y9 < nI P) ∧ dk_ex (nI r8) (nI Q9) ∧ dk_ex (nI k9) (nI Q9) ∧ dk_n (nI r8) = dk_vv (nI P) (nI Q9) (nI G) (nI y9) a (nI r8) (nI k9)) := fun q => by
              rw [hvv, hrn] at q
              exact c_128 ((lg_cmp_eq _ _).mpr (congrArg lN q.2.2.2))
            refine lv_iconst (v := 0) hx hb dX0_verify_135 (by decide) ?_
            exact vx_ret (W.zret (v := 0) (ty := .boolean) hx hb hr rfl (fun t ht hW => ⟨⟨0, (cp, cq, cs, cn, nI P, nI Q9, nI G, se, pu), rfl, ⟨rfl, by rw [dk_fver, if_neg hdp, if_neg hno]⟩, by rw [ht]; exact hP, va_K.moved hW.alike hK, hD⟩, hS.F ht⟩) hS.2.2 dX0_verify_136)
          · have hyes : ((1 ≤ nI y9 ∧ nI y9 < nI P) ∧ dk_ex (nI r8) (nI Q9) ∧ dk_ex (nI k9) (nI Q9) ∧ dk_n (nI r8) = dk_vv (nI P) (nI Q9) (nI G) (nI y9) a (nI r8) (nI k9)) := ⟨hyy, hexr, hexs, by rw [hvv, hrn]; exact (pk_lEQ (by omega) (by omega)).mp ((lg_cmp_eq _ _).mp c_128)⟩
            refine lv_iconst (v := 1) hx hb dX0_verify_131 (by decide) ?_
            refine lv_goto (tgt := 136) hx hb dX0_verify_132 (by decide) ?_
            exact vx_ret (W.zret (v := 1) (ty := .boolean) hx hb hr rfl (fun t ht hW => ⟨⟨1, (cp, cq, cs, cn, nI P, nI Q9, nI G, se, pu), rfl, ⟨rfl, by rw [dk_fver, if_neg hdp, if_pos hyes]⟩, by rw [ht]; exact hP, va_K.moved hW.alike hK, hD⟩, hS.F ht⟩) hS.2.2 dX0_verify_136)
        · have hno : ¬ ((1 ≤ y ∧ y < nI P) ∧ dk_ex r (nI Q9) ∧ dk_ex k (nI Q9) ∧ dk_n r = dk_vv (nI P) (nI Q9) (nI G) y a r k) := fun q => by
            rw [if_pos q.2.2.1] at c_32
            exact absurd c_32 (by decide)
          refine lv_iconst (v := 0) hx hb dX0_verify_35 (by decide) ?_
          exact vx_ret (W.zret (v := 0) (ty := .boolean) hx hb hr rfl (fun t ht hW => ⟨⟨0, (cp, cq, cs, cn, nI P, nI Q9, nI G, se, pu), rfl, ⟨rfl, by rw [dk_fver, if_neg hdp, if_neg hno]⟩, by rw [ht]; exact hP, va_K.moved hW.alike hK, hD⟩, hS.F ht⟩) hS.2.2 dX0_verify_36)
end
section
set_option maxHeartbeats 4000000 in
set_option maxRecDepth 100000 in
theorem dk_m_init (l : Launch) (dC : Nat → ClassId) (dI : Nat → Nat → Nat) (k0 : Nat) (sz : Nat) : Met l yX1_init wsX1_init ({ frames := 1, cells := 1, slots := 8, locals := 12 }) (va_Pc [.ref k0] (fun U => U.heap.size = sz ∧ va_P (dC, dI) vwCl [(k0, .inr (1, [.int 0, .int 0, .int 0, .int 0, .long 0, .int 0, .int 0, .int 0, .int 0, .int 0, .int 0, .null, .int 0]))] U.heap ∧ va_K (dC, dI) vwCl [] U ∧ va_D (fun _ => True) [(k0, .inr (1, [.int 0, .int 0, .int 0, .int 0, .long 0, .int 0, .int 0, .int 0, .int 0, .int 0, .int 0, .null, .int 0]))])) (va_Qv (fun u9 : dk_T => u9 = (0, 0, 0, 0, 0, 0, 0, 0, 0, 0, 0, 0, (fun _ => 0))) (fun u9 t9 => ∃ (k1 : Nat) (b1 : ClassId), dk_C dC dI (va_A [(k0, .inr (1, [.int 0, .int 0, .int 0, .int 0, .long 0, .int 0, .int 0, .int 0, .int 0, .int 0, .int 0, .null, .int 0]))] sz) k0 k1 b1 u9 t9) (va_A [(k0, .inr (1, [.int 0, .int 0, .int 0, .int 0, .long 0, .int 0, .int 0, .int 0, .int 0, .int 0, .int 0, .null, .int 0]))] sz)) 1 8 (va_A [(k0, .inr (1, [.int 0, .int 0, .int 0, .int 0, .long 0, .int 0, .int 0, .int 0, .int 0, .int 0, .int 0, .null, .int 0]))] sz) := by
  refine Met.ofW (cc := cX1_init) (maxL := 1) (ret := none) (by decide) rfl ?_
  intro p e s m args below meth c s₁ B hml hv
  obtain ⟨rfl, hsz, hP, hK, hD0⟩ := hv
  have hx := B.exec
  have hb := B.bytes
  have hr := B.returns
  have hts := atoms_spec (ws := wsX1_init) B.pre
  have hown : s.vm.findClass RX1 = some m.cls := findClass_of_methodNamed B.named
  have hlocks := B.notSynchronized
  have hin : meth.name = "<init>" := (name_of_methodNamed B.named B.method).1
  subst hsz
  have hD := hD0.self (sz := s.heap.size)
  generalize hAe : va_A [(k0, .inr (1, [.int 0, .int 0, .int 0, .int 0, .long 0, .int 0, .int 0, .int 0, .int 0, .int 0, .int 0, .null, .int 0]))] s.heap.size = A at hD ⊢
  have hA : ∀ q : Nat, s.heap.size ≤ q → A q := fun q h => by rw [← hAe]; exact Or.inr h
  have hS : va_S A s.heap s.heap [] := va_S.rf
  have hl := lv_entry ([.ref k0]) (n := 1) (Nat.le_of_ble_eq_true rfl)
  rw [lg_entry_eq]
  generalize (lg_sl ([.ref k0]) ++ List.replicate (1 - (lg_sl ([.ref k0])).length) Slot.unset).toArray = ls at hl ⊢
  have hl : lv_has ls 1 [(0, .ref k0)] := hl
  refine lv_aload_n hx hb dX1_init_0 rfl (lv_at hl 0 rfl) ?_
  refine W.objInit hx hb hown (hts (.methodLink RX1 1 objectInit) (by decide +kernel)) (hts (.instanceMethod objectInit) (by decide +kernel)) (hts _ (List.mem_cons_of_mem _ (List.mem_append_left _ (List.mem_of_getElem? (i := 2) rfl)))) rfl (by rw [hml]; exact hl.1) rfl dX1_init_1 (Nat.le_of_ble_eq_true rfl) (Nat.le_of_ble_eq_true rfl) ?_
  refine W.eq (g2 := F0 m 4 ls []) rfl ?_
  refine lv_aload_n hx hb dX1_init_4 rfl (lv_at hl 0 rfl) ?_
  refine lv_bipush (v := 8) hx hb dX1_init_5 (by decide) ?_
  refine va_newa (atype := .int) (N' := 8) (a0 := (8, .inl (fun _ => 0))) (ty := .int) (n := 8) hx hb (hts (.arrayClass .int) (by decide +kernel)) rfl hK hP hD hS hA (fun _ => rfl) (by decide) (by decide) (by decide) (Nat.le_of_ble_eq_true rfl) (Nat.le_of_ble_eq_true rfl) dX1_init_7 (fun q_7 cA_7 H hK hP hD hS => ?_)
  have hP : va_P (dC, dI) vwCl [(k0, .inr (1, [.int 0, .int 0, .int 0, .int 0, .long 0, .int 0, .int 0, .int 0, .int 0, .int 0, .int 0, .null, .int 0])), (q_7, .inl (cA_7, 8, .inl (fun _ => 0)))] H := hP
  have hD : va_D A [(k0, .inr (1, [.int 0, .int 0, .int 0, .int 0, .long 0, .int 0, .int 0, .int 0, .int 0, .int 0, .int 0, .null, .int 0])), (q_7, .inl (cA_7, 8, .inl (fun _ => 0)))] := hD
  have hK : va_K (dC, dI) vwCl [(cA_7, .int)] s := hK
  refine W.widen (k := 1) (n := 8) (Nat.le_of_ble_eq_true rfl) (Nat.le_of_ble_eq_true rfl) ?_
  refine va_putF (D := (dC, dI)) (ci := 1) (v := .ref q_7) (ty := .array .int) (C := RX1) (T := TX1) (N := 13) hx hb hts (by decide +kernel) tyX1 tyX1_ok nmX1 hown hK hP hD hS 0 rfl rfl 11 (by decide) (hts (.fieldLink RX1 7 "DomainKeysModel" "secrets" "[I") (by decide +kernel)) (fun _ h9 => h9) rfl hin rfl (by decide +kernel) rfl rfl (Nat.le_of_ble_eq_true rfl) dX1_init_9 (fun H locs hP hD hS => ?_)
  have hP : va_P (dC, dI) vwCl [(k0, .inr (1, [.int 0, .int 0, .int 0, .int 0, .long 0, .int 0, .int 0, .int 0, .int 0, .int 0, .int 0, .ref q_7, .int 0])), (q_7, .inl (cA_7, 8, .inl (fun _ => 0)))] H := hP
  have hD : va_D A [(k0, .inr (1, [.int 0, .int 0, .int 0, .int 0, .long 0, .int 0, .int 0, .int 0, .int 0, .int 0, .int 0, .ref q_7, .int 0])), (q_7, .inl (cA_7, 8, .inl (fun _ => 0)))] := hD
  exact W.vret hx hb hr (fun t ht hW => ⟨⟨(0, 0, 0, 0, 0, 0, 0, 0, 0, 0, 0, 0, (fun _ => 0)), rfl, rfl, q_7, cA_7, by rw [ht]; exact hP, va_K.moved hW.alike hK, hD⟩, hS.F ht⟩) hS.2.2 dX1_init_12

set_option maxHeartbeats 4000000 in
set_option maxRecDepth 100000 in
theorem dk_m_thrown (l : Launch) (dC : Nat → ClassId) (dI : Nat → Nat → Nat) (k0 k1 : Nat) (b1 : ClassId) (mp mq mo hc : Int32) (ms9 : Int64) (kp kq kn pp qq gg th : Int32) (sk : Nat → Int32)  : Met l yX1_thrown wsX1_thrown ({ frames := 0, cells := 0, slots := 0, locals := 0 }) (va_Pc [.ref k0] (fun U => va_P (dC, dI) vwCl [(k0, .inr (1, [.int mp, .int mq, .int mo, .int hc, .long ms9, .int kp, .int kq, .int kn, .int pp, .int qq, .int gg, .ref k1, .int th])), (k1, .inl (b1, 8, .inl sk))] U.heap ∧ va_K (dC, dI) vwCl [(b1, .int)] U)) (vp_Si (fun r9 => r9 = th)) 0 0 (fun _ => False) := by
  refine Met.ofW (cc := cX1_thrown) (maxL := 1) (ret := (some .int)) (by decide) rfl ?_
  intro p e s m args below meth c s₁ B hml hv
  obtain ⟨rfl, hP, hK⟩ := hv
  have hx := B.exec
  have hb := B.bytes
  have hr := B.returns
  have hts := atoms_spec (ws := wsX1_thrown) B.pre
  have hown : s.vm.findClass RX1 = some m.cls := findClass_of_methodNamed B.named
  have hlocks := B.notSynchronized
  have hl := lv_entry ([.ref k0]) (n := 1) (Nat.le_of_ble_eq_true rfl)
  rw [lg_entry_eq]
  generalize (lg_sl ([.ref k0]) ++ List.replicate (1 - (lg_sl ([.ref k0])).length) Slot.unset).toArray = ls at hl ⊢
  have hl : lv_has ls 1 [(0, .ref k0)] := hl
  refine lv_aload_n hx hb dX1_thrown_0 rfl (lv_at hl 0 rfl) ?_
  refine va_get (D := (dC, dI)) (ci := 1) (v := .int th) (C := RX1) (T := TX1) (N := 13) hx hb hts (by decide +kernel) hown hK hP 0 rfl rfl 12 (by decide) (hts (.fieldLink RX1 13 "DomainKeysModel" "thrown" "I") (by decide +kernel)) (fun _ h9 => h9) rfl dX1_thrown_1 ?_
  exact W.iret (v := th) hx hb hr (fun t ht hW => ⟨_, rfl, rfl, ht⟩) (fun q h => nomatch h) dX1_thrown_4

set_option maxHeartbeats 4000000 in
set_option maxRecDepth 100000 in
theorem dk_m_hasKey (l : Launch) (dC : Nat → ClassId) (dI : Nat → Nat → Nat) (k0 k1 : Nat) (b1 : ClassId) (mp mq mo hc : Int32) (ms9 : Int64) (kp kq kn pp qq gg th : Int32) (sk : Nat → Int32) (x : Int32) (hpo : ∀ j, j < 8 → sk j = 0 ∨ 1 ≤ sk j) : Met l yX1_hasKey wsX1_hasKey ({ frames := 0, cells := 0, slots := 0, locals := 0 }) (va_Pc [.ref k0, .int x] (fun U => va_P (dC, dI) vwCl [(k0, .inr (1, [.int mp, .int mq, .int mo, .int hc, .long ms9, .int kp, .int kq, .int kn, .int pp, .int qq, .int gg, .ref k1, .int th])), (k1, .inl (b1, 8, .inl sk))] U.heap ∧ va_K (dC, dI) vwCl [(b1, .int)] U)) (vp_Si (fun r9 => r9 = if dk_hk sk x then 1 else 0)) 0 0 (fun _ => False) := by
  refine Met.ofW (cc := cX1_hasKey) (maxL := 2) (ret := (some .boolean)) (by decide) rfl ?_
  intro p e s m args below meth c s₁ B hml hv
  obtain ⟨rfl, hP, hK⟩ := hv
  have hx := B.exec
  have hb := B.bytes
  have hr := B.returns
  have hts := atoms_spec (ws := wsX1_hasKey) B.pre
  have hown : s.vm.findClass RX1 = some m.cls := findClass_of_methodNamed B.named
  have hlocks := B.notSynchronized
  have hl := lv_entry ([.ref k0, .int x]) (n := 2) (Nat.le_of_ble_eq_true rfl)
  rw [lg_entry_eq]
  generalize (lg_sl ([.ref k0, .int x]) ++ List.replicate (2 - (lg_sl ([.ref k0, .int x])).length) Slot.unset).toArray = ls at hl ⊢
  have hl : lv_has ls 2 [(0, .ref k0), (1, .int x)] := hl
  refine lv_iload_n hx hb dX1_hasKey_0 rfl (lv_at hl 1 rfl) ?_
  refine lv_if_lt (tgt := 23) hx hb dX1_hasKey_1 (by decide) (fun c_1 => ?_) (fun c_1 => ?_)
  · have hno : ¬ dk_hk sk x := fun q => dk_not_lt.mpr q.1.1 c_1
    refine lv_iconst (v := 0) hx hb dX1_hasKey_23 (by decide) ?_
    exact W.zret (v := 0) (ty := .boolean) hx hb hr rfl (fun t ht hW => ⟨_, rfl, (if_neg hno).symm, ht⟩) (fun q h => nomatch h) dX1_hasKey_24
  · refine lv_iload_n hx hb dX1_hasKey_4 rfl (lv_at hl 1 rfl) ?_
    refine lv_bipush (v := 7) hx hb dX1_hasKey_5 (by decide) ?_
    refine lv_icmp_gt (tgt := 23) hx hb dX1_hasKey_7 (by decide) (fun c_7 => ?_) (fun c_7 => ?_)
    · have hno : ¬ dk_hk sk x := fun q => by
        obtain ⟨j, q1, rfl⟩ := dk_sl_of.mp q.1
        have := (nI_ltI (a := 7) (by omega) (by omega)).mp c_7
        omega
      refine lv_iconst (v := 0) hx hb dX1_hasKey_23 (by decide) ?_
      exact W.zret (v := 0) (ty := .boolean) hx hb hr rfl (fun t ht hW => ⟨_, rfl, (if_neg hno).symm, ht⟩) (fun q h => nomatch h) dX1_hasKey_24
    · obtain ⟨j, hj, rfl⟩ : ∃ j : Nat, j < 8 ∧ x = nI j := by
        rcases pk_ix x (n := 8) (by decide) with q | q | q
        · exact absurd q c_1
        · exact absurd (Int32.lt_of_lt_of_le (by decide) q) c_7
        · exact q
      refine lv_aload_n hx hb dX1_hasKey_10 rfl (lv_at hl 0 rfl) ?_
      refine va_get (D := (dC, dI)) (ci := 1) (v := .ref k1) (C := RX1) (T := TX1) (N := 13) hx hb hts (by decide +kernel) hown hK hP 0 rfl rfl 11 (by decide) (hts (.fieldLink RX1 7 "DomainKeysModel" "secrets" "[I") (by decide +kernel)) (fun _ h9 => h9) rfl dX1_hasKey_11 ?_
      refine lv_iload_n hx hb dX1_hasKey_14 rfl (lv_at hl 1 rfl) ?_
      refine va_iald hx hb hK hP 1 0 rfl rfl (vp_in_nI hj (by decide)) dX1_hasKey_15 ?_
      refine lv_topi (fun v_15 ev_15 => ?_)
      have ev_15 : v_15 = sk j := ev_15.trans (congrArg sk (nI_clamp (Nat.lt_trans hj (by decide))))
      subst ev_15
      refine lv_if_le (tgt := 23) hx hb dX1_hasKey_16 (by decide) (fun c_16 => ?_) (fun c_16 => ?_)
      · have hno : ¬ dk_hk sk (nI j) := fun q => by
          rcases hpo j hj with q1 | q1
          · exact (dk_hk_nI hj).mp q q1
          · exact dk_not_lt.mpr (Int32.le_trans q1 c_16) (by decide)
        refine lv_iconst (v := 0) hx hb dX1_hasKey_23 (by decide) ?_
        exact W.zret (v := 0) (ty := .boolean) hx hb hr rfl (fun t ht hW => ⟨_, rfl, (if_neg hno).symm, ht⟩) (fun q h => nomatch h) dX1_hasKey_24
      · have hyes : dk_hk sk (nI j) := (dk_hk_nI hj).mpr (fun q => c_16 (by rw [q]; decide))
        refine lv_iconst (v := 1) hx hb dX1_hasKey_19 (by decide) ?_
        refine lv_goto (tgt := 24) hx hb dX1_hasKey_20 (by decide) ?_
        exact W.zret (v := 1) (ty := .boolean) hx hb hr rfl (fun t ht hW => ⟨_, rfl, (if_pos hyes).symm, ht⟩) (fun q h => nomatch h) dX1_hasKey_24

theorem dk_n2 {n : Nat} (h : n < 2147483648) : ¬ (-2 : Int32) = nI n := fun q => by
  have h1 := nI_pos (n := n) h
  rw [← q] at h1
  exact h1 (by decide)
theorem dk_n1 {n : Nat} (h : n < 2147483648) : ¬ (-1 : Int32) = nI n := fun q => by
  have h1 := nI_pos (n := n) h
  rw [← q] at h1
  exact h1 (by decide)

set_option maxHeartbeats 4000000 in
set_option maxRecDepth 100000 in
theorem dk_make_loop {p : Program} {l : Launch} {e : Env} {s : State} {m : MethodId} {args : Array Value} {below : List Frame} {meth : Method} {c : Code} {Q : State → Prop} {A : Nat → Prop} (dC : Nat → ClassId) (dI : Nat → Nat → Nat) (k0 k1 : Nat) (b1 : ClassId) (mp mq mo hc : Int32) (ms9 : Int64) (kp kq kn pp qq gg th : Int32) (sk : Nat → Int32) (sd : Int64) (hpq : dk_pr (dk_q sd)) (hx : p.tables.exec = Jvm.exec) (hb : c.code = cX1_make) (hml : c.maxLocals = 10) (hown : s.vm.findClass RX1 = some m.cls) (hts : ∀ w ∈ wsX1_make, w.before args s = true) (hA : ∀ q : Nat, s.heap.size ≤ q → A q) (hK : va_K (dC, dI) vwCl [(b1, .int)] s) (kk : ∀ (mp2 r2 : Int32) (H : Heap) (locs : List Loc) (ls : Array Slot), dk_Mk sd r2 ∧ (∀ n9 : Nat, n9 < 64 → r2 = nI n9 → mp2 = nI (dk_try sd n9)) → va_P (dC, dI) vwCl [(k0, .inr (1, [.int mp2, .int (nI (dk_q sd)), .int r2, .int hc, .long ms9, .int kp, .int kq, .int kn, .int pp, .int qq, .int gg, .ref k1, .int th])), (k1, .inl (b1, 8, .inl sk))] H → va_D A [(k0, .inr (1, [.int mp2, .int (nI (dk_q sd)), .int r2, .int hc, .long ms9, .int kp, .int kq, .int kn, .int pp, .int qq, .int gg, .ref k1, .int th])), (k1, .inl (b1, 8, .inl sk))] → va_S A s.heap H locs → W p l e (headSpec wsX1_make ({ frames := 1, cells := 0, slots := 0, locals := 25 })).room s m args below meth c H locs 0 0 Q (F0 m 134 ls [])) :
    ∀ (n i9 : Nat) (H : Heap) (locs : List Loc) (ls : Array Slot), 65 ≤ i9 + n → i9 ≤ 64 → (∀ j, j < i9 → ¬ dk_ok sd j) → va_P (dC, dI) vwCl [(k0, .inr (1, [.int mp, .int (nI (dk_q sd)), .int (-2), .int hc, .long ms9, .int kp, .int kq, .int kn, .int pp, .int qq, .int gg, .ref k1, .int th])), (k1, .inl (b1, 8, .inl sk))] H → va_D A [(k0, .inr (1, [.int mp, .int (nI (dk_q sd)), .int (-2), .int hc, .long ms9, .int kp, .int kq, .int kn, .int pp, .int qq, .int gg, .ref k1, .int th])), (k1, .inl (b1, 8, .inl sk))] → va_S A s.heap H locs → lv_has ls 10 [(0, .ref k0), (1, .long sd), (5, .int (nI i9))] → W p l e (headSpec wsX1_make ({ frames := 1, cells := 0, slots := 0, locals := 25 })).room s m args below meth c H locs 0 0 Q (F0 m 44 ls []) := by
  intro n
  induction n with
  | zero =>
    intro i9 H locs ls g1 g2
    exact absurd g1 (by omega)
  | succ n ih =>
    intro i9 H locs ls g1 g2 g3 hP hD hS hl
    have htr := dk_try_in sd i9
    have hXi := dk_X_in sd i9
    have hqi := dk_q_in sd
    refine lv_iload hx hb dX1_make_44 (lv_at hl 2 rfl) ?_
    refine lv_bipush (v := 64) hx hb dX1_make_46 (by decide) ?_
    refine lv_icmp_ge (tgt := 134) hx hb dX1_make_48 (by decide) (fun c_48 => ?_) (fun c_48 => ?_)
    · have hi9 : 64 ≤ i9 := (nI_leI (by omega) (by omega)).mp c_48
      exact kk _ _ H locs ls ⟨Or.inr (Or.inr ⟨hpq, fun j hj => g3 j (by omega), rfl⟩), fun n9 q1 q2 => absurd q2 (dk_n2 (by omega))⟩ hP hD hS
    · have hi9 : i9 < 64 := by
        rcases Nat.lt_or_ge i9 64 with q | q
        · exact q
        · exact absurd ((nI_leI (a := 64) (b := i9) (by omega) (by omega)).mpr q) c_48
      refine lv_aload_n hx hb dX1_make_51 rfl (lv_at hl 0 rfl) ?_
      refine va_get (D := (dC, dI)) (ci := 1) (v := .int (-2)) (C := RX1) (T := TX1) (N := 13) hx hb hts (by decide +kernel) hown hK hP 0 rfl rfl 2 (by decide) (hts (.fieldLink RX1 38 "DomainKeysModel" "outcome" "I") (by decide +kernel)) (fun _ h9 => h9) rfl dX1_make_52 ?_
      refine lv_bipush (v := (-2)) hx hb dX1_make_55 (by decide) ?_
      refine lv_icmp_ne (tgt := 134) hx hb dX1_make_57 (by decide) (fun c_57 => ?_) (fun c_57 => ?_)
      · exact absurd rfl c_57
      · refine lv_ldc2 (v := 1073741824) hx hb hown (hts (.constantLong RX1 41 1073741824) (by decide +kernel)) dX1_make_60 ?_
        refine lv_lload_n hx hb dX1_make_63 rfl (lv_at hl 1 rfl) ?_
        refine lv_lconst (v := 1) hx hb dX1_make_64 (by decide) ?_
        refine lv_iload hx hb dX1_make_65 (lv_at hl 2 rfl) ?_
        refine lv_i2l hx hb dX1_make_67 rfl ?_
        refine lv_topl (fun v_67 ev_67 => ?_)
        have ev_67 : v_67 = lN i9 := ev_67.trans (nI_l (by omega))
        subst ev_67
        refine lv_ladd hx hb dX1_make_68 ?_
        refine lv_topl (fun v_68 ev_68 => ?_)
        have ev_68 : v_68 = lN (1 + i9) := ev_68.trans (lN_add 1 i9)
        subst ev_68
        refine vp_callSl (W.runS (As := [.long sd, .long (lN (1 + i9))]) (rest := [.long 1073741824]) ⟨hx, hb, hml, hown, hts⟩ (dk_m_h l sd (lN (1 + i9))) (va_cwS 2 hts gX1_make_X1_h rfl rfl rfl (by decide +kernel) ⟨Nat.le_of_ble_eq_true rfl, Nat.le_of_ble_eq_true rfl⟩) ⟨fun _ _ _ _ q9 => q9, fun U hU hW => ⟨rfl, trivial⟩⟩ rfl rfl hl.1 rfl (lv_room (Nat.le_of_ble_eq_true rfl)) dX1_make_69 ⟨Nat.le_of_ble_eq_true rfl, Nat.le_of_ble_eq_true rfl⟩) (fun r_69 hr_69 => ?_)
        subst hr_69
        refine lv_bipush (v := 34) hx hb dX1_make_72 (by decide) ?_
        refine lv_lushr hx hb dX1_make_74 rfl ?_
        refine lv_topl (fun v_74 ev_74 => ?_)
        have ev_74 : v_74 = lN (dk_hN sd (lN (1 + i9)) / 17179869184) := ev_74.trans (dk_hus sd _ (k := 34) (by decide))
        subst ev_74
        refine lv_ladd hx hb dX1_make_75 ?_
        refine lv_topl (fun v_75 ev_75 => ?_)
        have ev_75 : v_75 = lN (dk_X sd i9) := ev_75.trans (lN_add 1073741824 _)
        subst ev_75
        refine lv_lstore (lv' := [(6, .long (lN (dk_X sd i9))), (0, .ref k0), (1, .long sd), (5, .int (nI i9))]) hx hb dX1_make_76 hl (by decide) rfl (fun ls hl => ?_)
        refine lv_lload hx hb dX1_make_78 (lv_at hl 0 rfl) ?_
        refine lv_lload hx hb dX1_make_80 (lv_at hl 0 rfl) ?_
        refine lv_ldc2 (v := 2) hx hb hown (hts (.constantLong RX1 25 2) (by decide +kernel)) dX1_make_82 ?_
        refine lv_aload_n hx hb dX1_make_85 rfl (lv_at hl 1 rfl) ?_
        refine va_get (D := (dC, dI)) (ci := 1) (v := .int (nI (dk_q sd))) (C := RX1) (T := TX1) (N := 13) hx hb hts (by decide +kernel) hown hK hP 0 rfl rfl 1 (by decide) (hts (.fieldLink RX1 31 "DomainKeysModel" "madeQ" "I") (by decide +kernel)) (fun _ h9 => h9) rfl dX1_make_86 ?_
        refine lv_i2l hx hb dX1_make_89 rfl ?_
        refine lv_topl (fun v_89 ev_89 => ?_)
        have ev_89 : v_89 = lN (dk_q sd) := ev_89.trans (nI_l (by omega))
        subst ev_89
        refine lv_lmul hx hb dX1_make_90 ?_
        refine lv_topl (fun v_90 ev_90 => ?_)
        have ev_90 : v_90 = lN (2 * dk_q sd) := ev_90.trans (lN_mul 2 _)
        subst ev_90
        refine lv_lrem hx hb dX1_make_91 (dk_lne (by omega) (by omega)) ?_
        refine lv_topl (fun v_91 ev_91 => ?_)
        have ev_91 : v_91 = lN (dk_X sd i9 % (2 * dk_q sd)) := ev_91.trans (pk_lRem (by omega) (by omega) (by omega))
        subst ev_91
        refine lv_lsub hx hb dX1_make_92 ?_
        refine lv_topl (fun v_92 ev_92 => ?_)
        have ev_92 : v_92 = lN (dk_X sd i9 - dk_X sd i9 % (2 * dk_q sd)) := ev_92.trans (lN_sub (Nat.mod_le _ _))
        subst ev_92
        refine lv_lconst (v := 1) hx hb dX1_make_93 (by decide) ?_
        refine lv_ladd hx hb dX1_make_94 ?_
        refine lv_topl (fun v_94 ev_94 => ?_)
        have ev_94 : v_94 = lN (dk_try sd i9) := ev_94.trans (lN_1 _)
        subst ev_94
        refine lv_lstore (lv' := [(8, .long (lN (dk_try sd i9))), (6, .long (lN (dk_X sd i9))), (0, .ref k0), (1, .long sd), (5, .int (nI i9))]) hx hb dX1_make_95 hl (by decide) rfl (fun ls hl => ?_)
        refine lv_lload hx hb dX1_make_97 (lv_at hl 0 rfl) ?_
        refine lv_ldc2 (v := 1073741824) hx hb hown (hts (.constantLong RX1 41 1073741824) (by decide +kernel)) dX1_make_99 ?_
        refine W.lcmp hx hb dX1_make_102 ?_
        refine lv_if_le (tgt := 128) hx hb dX1_make_103 (by decide) (fun c_103 => ?_) (fun c_103 => ?_)
        · have hno : ¬ dk_ok sd i9 := fun q => by
            have q1 := (pk_lLE (a := dk_try sd i9) (b := 1073741824) (by omega) (by omega)).mp ((lg_cmp_le _ _).mp c_103)
            have q2 := q.1
            omega
          refine lv_iinc (v := (nI (i9 + 1))) (lv' := [(5, .int (nI (i9 + 1))), (8, .long (lN (dk_try sd i9))), (6, .long (lN (dk_X sd i9))), (0, .ref k0), (1, .long sd)]) hx hb dX1_make_128 hl (k := 4) rfl (nI_1 i9) (by decide) rfl (fun ls hl => ?_)
          refine lv_goto (tgt := 44) hx hb dX1_make_131 (by decide) ?_
          exact ih (i9 + 1) H locs ls (by omega) (by omega) (fun j hj => if q : j < i9 then g3 j q else by rw [show j = i9 by omega]; exact hno) hP hD hS (lv_sub hl [3, 4, 0] rfl)
        · have hgt : 1073741824 < dk_try sd i9 := by
            rcases Nat.lt_or_ge 1073741824 (dk_try sd i9) with q | q
            · exact q
            · exact absurd ((lg_cmp_le _ _).mpr ((pk_lLE (a := dk_try sd i9) (b := 1073741824) (by omega) (by omega)).mpr q)) c_103
          refine lv_lload hx hb dX1_make_106 (lv_at hl 0 rfl) ?_
          refine lv_l2i hx hb dX1_make_108 rfl ?_
          refine lv_topi (fun v_108 ev_108 => ?_)
          have ev_108 : v_108 = nI (dk_try sd i9) := ev_108.trans (lN_i _)
          subst ev_108
          refine vp_callSi (W.runS (As := [.int (nI (dk_try sd i9))]) (rest := []) ⟨hx, hb, hml, hown, hts⟩ (dk_m_prime l (dk_try sd i9) htr.2) (va_cwS 1 hts gX1_make_X1_prime rfl rfl rfl (by decide +kernel) ⟨Nat.le_of_ble_eq_true rfl, Nat.le_of_ble_eq_true rfl⟩) ⟨fun _ _ _ _ q9 => q9, fun U hU hW => ⟨rfl, trivial⟩⟩ rfl rfl hl.1 rfl (lv_room (Nat.le_of_ble_eq_true rfl)) dX1_make_109 ⟨Nat.le_of_ble_eq_true rfl, Nat.le_of_ble_eq_true rfl⟩) (fun r_109 hr_109 => ?_)
          refine lv_if_eq (tgt := 128) hx hb dX1_make_112 (by decide) (fun c_112 => ?_) (fun c_112 => ?_)
          · have hno : ¬ dk_ok sd i9 := fun q => by
              rcases hr_109 with ⟨q1, -⟩ | ⟨-, q1⟩
              · rw [q1] at c_112; exact absurd c_112 (by decide)
              · exact q1 q.2
            refine lv_iinc (v := (nI (i9 + 1))) (lv' := [(5, .int (nI (i9 + 1))), (8, .long (lN (dk_try sd i9))), (6, .long (lN (dk_X sd i9))), (0, .ref k0), (1, .long sd)]) hx hb dX1_make_128 hl (k := 4) rfl (nI_1 i9) (by decide) rfl (fun ls hl => ?_)
            refine lv_goto (tgt := 44) hx hb dX1_make_131 (by decide) ?_
            exact ih (i9 + 1) H locs ls (by omega) (by omega) (fun j hj => if q : j < i9 then g3 j q else by rw [show j = i9 by omega]; exact hno) hP hD hS (lv_sub hl [3, 4, 0] rfl)
          · have hok : dk_ok sd i9 := by
              rcases hr_109 with ⟨-, q1⟩ | ⟨q1, -⟩
              · exact ⟨hgt, q1⟩
              · exact absurd q1 c_112
            refine lv_aload_n hx hb dX1_make_115 rfl (lv_at hl 2 rfl) ?_
            refine lv_lload hx hb dX1_make_116 (lv_at hl 0 rfl) ?_
            refine lv_l2i hx hb dX1_make_118 rfl ?_
            refine lv_topi (fun v_118 ev_118 => ?_)
            have ev_118 : v_118 = nI (dk_try sd i9) := ev_118.trans (lN_i _)
            subst ev_118
            refine va_put (D := (dC, dI)) (ci := 1) (v := .int (nI (dk_try sd i9))) (ty := .int) (C := RX1) (T := TX1) (N := 13) hx hb hts (by decide +kernel) tyX1 tyX1_ok nmX1 hown hK hP hD hS 0 rfl rfl 0 (by decide) (hts (.fieldLink RX1 43 "DomainKeysModel" "madeP" "I") (by decide +kernel)) (fun _ h9 => h9) rfl (by decide +kernel) rfl rfl (Nat.le_of_ble_eq_true rfl) dX1_make_119 (fun H locs hP hD hS => ?_)
            have hP : va_P (dC, dI) vwCl [(k0, .inr (1, [.int (nI (dk_try sd i9)), .int (nI (dk_q sd)), .int (-2), .int hc, .long ms9, .int kp, .int kq, .int kn, .int pp, .int qq, .int gg, .ref k1, .int th])), (k1, .inl (b1, 8, .inl sk))] H := hP
            have hD : va_D A [(k0, .inr (1, [.int (nI (dk_try sd i9)), .int (nI (dk_q sd)), .int (-2), .int hc, .long ms9, .int kp, .int kq, .int kn, .int pp, .int qq, .int gg, .ref k1, .int th])), (k1, .inl (b1, 8, .inl sk))] := hD
            refine lv_aload_n hx hb dX1_make_122 rfl (lv_at hl 2 rfl) ?_
            refine lv_iload hx hb dX1_make_123 (lv_at hl 4 rfl) ?_
            refine va_put (D := (dC, dI)) (ci := 1) (v := .int (nI i9)) (ty := .int) (C := RX1) (T := TX1) (N := 13) hx hb hts (by decide +kernel) tyX1 tyX1_ok nmX1 hown hK hP hD hS 0 rfl rfl 2 (by decide) (hts (.fieldLink RX1 38 "DomainKeysModel" "outcome" "I") (by decide +kernel)) (fun _ h9 => h9) rfl (by decide +kernel) rfl rfl (Nat.le_of_ble_eq_true rfl) dX1_make_125 (fun H locs hP hD hS => ?_)
            have hP : va_P (dC, dI) vwCl [(k0, .inr (1, [.int (nI (dk_try sd i9)), .int (nI (dk_q sd)), .int (nI i9), .int hc, .long ms9, .int kp, .int kq, .int kn, .int pp, .int qq, .int gg, .ref k1, .int th])), (k1, .inl (b1, 8, .inl sk))] H := hP
            have hD : va_D A [(k0, .inr (1, [.int (nI (dk_try sd i9)), .int (nI (dk_q sd)), .int (nI i9), .int hc, .long ms9, .int kp, .int kq, .int kn, .int pp, .int qq, .int gg, .ref k1, .int th])), (k1, .inl (b1, 8, .inl sk))] := hD
            refine lv_iinc (v := (nI (i9 + 1))) (lv' := [(5, .int (nI (i9 + 1))), (8, .long (lN (dk_try sd i9))), (6, .long (lN (dk_X sd i9))), (0, .ref k0), (1, .long sd)]) hx hb dX1_make_128 hl (k := 4) rfl (nI_1 i9) (by decide) rfl (fun ls hl => ?_)
            refine lv_goto (tgt := 44) hx hb dX1_make_131 (by decide) ?_
            refine lv_iload hx hb dX1_make_44 (lv_at hl 0 rfl) ?_
            refine lv_bipush (v := 64) hx hb dX1_make_46 (by decide) ?_
            refine lv_icmp_ge (tgt := 134) hx hb dX1_make_48 (by decide) (fun c_48 => ?_) (fun c_48 => ?_)
            · exact kk _ _ H locs ls ⟨Or.inr (Or.inl ⟨hpq, i9, hi9, hok, g3, rfl⟩), fun n9 q1 q2 => by rw [(nI_eq (by omega) (by omega)).mp q2]⟩ hP hD hS
            · refine lv_aload_n hx hb dX1_make_51 rfl (lv_at hl 3 rfl) ?_
              refine va_get (D := (dC, dI)) (ci := 1) (v := .int (nI i9)) (C := RX1) (T := TX1) (N := 13) hx hb hts (by decide +kernel) hown hK hP 0 rfl rfl 2 (by decide) (hts (.fieldLink RX1 38 "DomainKeysModel" "outcome" "I") (by decide +kernel)) (fun _ h9 => h9) rfl dX1_make_52 ?_
              refine lv_bipush (v := (-2)) hx hb dX1_make_55 (by decide) ?_
              refine lv_icmp_ne (tgt := 134) hx hb dX1_make_57 (by decide) (fun c_57 => ?_) (fun c_57 => ?_)
              · exact kk _ _ H locs ls ⟨Or.inr (Or.inl ⟨hpq, i9, hi9, hok, g3, rfl⟩), fun n9 q1 q2 => by rw [(nI_eq (by omega) (by omega)).mp q2]⟩ hP hD hS
              · exact absurd c_57 (fun q => dk_n2 (n := i9) (by omega) q.symm)

set_option maxHeartbeats 4000000 in
set_option maxRecDepth 100000 in
theorem dk_m_make (l : Launch) (dC : Nat → ClassId) (dI : Nat → Nat → Nat) (k0 k1 : Nat) (b1 : ClassId) (mp mq mo hc : Int32) (ms9 : Int64) (kp kq kn pp qq gg th : Int32) (sk : Nat → Int32) (sd : Int64) (sz : Nat) : Met l yX1_make wsX1_make ({ frames := 1, cells := 0, slots := 0, locals := 25 }) (va_Pc [.ref k0, .long sd] (fun U => U.heap.size = sz ∧ va_P (dC, dI) vwCl [(k0, .inr (1, [.int mp, .int mq, .int mo, .int hc, .long ms9, .int kp, .int kq, .int kn, .int pp, .int qq, .int gg, .ref k1, .int th])), (k1, .inl (b1, 8, .inl sk))] U.heap ∧ va_K (dC, dI) vwCl [(b1, .int)] U ∧ va_D (fun _ => True) [(k0, .inr (1, [.int mp, .int mq, .int mo, .int hc, .long ms9, .int kp, .int kq, .int kn, .int pp, .int qq, .int gg, .ref k1, .int th])), (k1, .inl (b1, 8, .inl sk))])) (va_Qv (fun u9 : dk_T => ∃ mp2 r2 : Int32, (dk_Mk sd r2 ∧ (∀ n9 : Nat, n9 < 64 → r2 = nI n9 → mp2 = nI (dk_try sd n9))) ∧ u9 = (mp2, nI (dk_q sd), r2, hc, ms9, kp, kq, kn, pp, qq, gg, th, sk)) (dk_C dC dI (va_A [(k0, .inr (1, [.int mp, .int mq, .int mo, .int hc, .long ms9, .int kp, .int kq, .int kn, .int pp, .int qq, .int gg, .ref k1, .int th])), (k1, .inl (b1, 8, .inl sk))] sz) k0 k1 b1) (va_A [(k0, .inr (1, [.int mp, .int mq, .int mo, .int hc, .long ms9, .int kp, .int kq, .int kn, .int pp, .int qq, .int gg, .ref k1, .int th])), (k1, .inl (b1, 8, .inl sk))] sz)) 0 0 (va_A [(k0, .inr (1, [.int mp, .int mq, .int mo, .int hc, .long ms9, .int kp, .int kq, .int kn, .int pp, .int qq, .int gg, .ref k1, .int th])), (k1, .inl (b1, 8, .inl sk))] sz) := by
  refine Met.ofW (cc := cX1_make) (maxL := 10) (ret := none) (by decide) rfl ?_
  intro p e s m args below meth c s₁ B hml hv
  obtain ⟨rfl, hsz, hP, hK, hD0⟩ := hv
  have hx := B.exec
  have hb := B.bytes
  have hr := B.returns
  have hts := atoms_spec (ws := wsX1_make) B.pre
  have hown : s.vm.findClass RX1 = some m.cls := findClass_of_methodNamed B.named
  have hlocks := B.notSynchronized
  subst hsz
  have hD := hD0.self (sz := s.heap.size)
  generalize hAe : va_A [(k0, .inr (1, [.int mp, .int mq, .int mo, .int hc, .long ms9, .int kp, .int kq, .int kn, .int pp, .int qq, .int gg, .ref k1, .int th])), (k1, .inl (b1, 8, .inl sk))] s.heap.size = A at hD ⊢
  have hA : ∀ q : Nat, s.heap.size ≤ q → A q := fun q h => by rw [← hAe]; exact Or.inr h
  have hS : va_S A s.heap s.heap [] := va_S.rf
  have hl := lv_entry ([.ref k0, .long sd]) (n := 10) (Nat.le_of_ble_eq_true rfl)
  rw [lg_entry_eq]
  generalize (lg_sl ([.ref k0, .long sd]) ++ List.replicate (10 - (lg_sl ([.ref k0, .long sd])).length) Slot.unset).toArray = ls at hl ⊢
  have hl : lv_has ls 10 [(0, .ref k0), (1, .long sd)] := hl
  refine lv_lload_n hx hb dX1_make_0 rfl (lv_at hl 1 rfl) ?_
  refine lv_lconst (v := 0) hx hb dX1_make_1 (by decide) ?_
  refine vp_callSl (W.runS (As := [.long sd, .long 0]) (rest := []) ⟨hx, hb, hml, hown, hts⟩ (dk_m_h l sd 0) (va_cwS 2 hts gX1_make_X1_h rfl rfl rfl (by decide +kernel) ⟨Nat.le_of_ble_eq_true rfl, Nat.le_of_ble_eq_true rfl⟩) ⟨fun _ _ _ _ q9 => q9, fun U hU hW => ⟨rfl, trivial⟩⟩ rfl rfl hl.1 rfl (lv_room (Nat.le_of_ble_eq_true rfl)) dX1_make_2 ⟨Nat.le_of_ble_eq_true rfl, Nat.le_of_ble_eq_true rfl⟩) (fun r_2 hr_2 => ?_)
  subst hr_2
  refine lv_bipush (v := 51) hx hb dX1_make_5 (by decide) ?_
  refine lv_lushr hx hb dX1_make_7 rfl ?_
  refine lv_topl (fun v_7 ev_7 => ?_)
  have ev_7 : v_7 = lN (dk_hN sd 0 / 2251799813685248) := ev_7.trans (dk_hus sd 0 (k := 51) (by decide))
  subst ev_7
  refine lv_lstore_n (lv' := [(3, .long (lN (dk_hN sd 0 / 2251799813685248))), (0, .ref k0), (1, .long sd)]) hx hb dX1_make_8 rfl hl (by decide) rfl (fun ls hl => ?_)
  refine lv_aload_n hx hb dX1_make_9 rfl (lv_at hl 1 rfl) ?_
  refine lv_sipush (v := 16385) hx hb dX1_make_10 (by decide) ?_
  refine lv_iconst (v := 2) hx hb dX1_make_13 (by decide) ?_
  refine lv_lload_n hx hb dX1_make_14 rfl (lv_at hl 0 rfl) ?_
  refine lv_l2i hx hb dX1_make_15 rfl ?_
  refine lv_topi (fun v_15 ev_15 => ?_)
  have ev_15 : v_15 = nI (dk_hN sd 0 / 2251799813685248) := ev_15.trans (lN_i _)
  subst ev_15
  refine lv_imul hx hb dX1_make_16 ?_
  refine lv_topi (fun v_16 ev_16 => ?_)
  have ev_16 : v_16 = nI (2 * (dk_hN sd 0 / 2251799813685248)) := ev_16.trans (pk_mul 2 _)
  subst ev_16
  refine lv_iadd hx hb dX1_make_17 ?_
  refine lv_topi (fun v_17 ev_17 => ?_)
  have ev_17 : v_17 = nI (dk_q sd) := ev_17.trans (nI_add 16385 _)
  subst ev_17
  refine va_put (D := (dC, dI)) (ci := 1) (v := .int (nI (dk_q sd))) (ty := .int) (C := RX1) (T := TX1) (N := 13) hx hb hts (by decide +kernel) tyX1 tyX1_ok nmX1 hown hK hP hD hS 0 rfl rfl 1 (by decide) (hts (.fieldLink RX1 31 "DomainKeysModel" "madeQ" "I") (by decide +kernel)) (fun _ h9 => h9) rfl (by decide +kernel) rfl rfl (Nat.le_of_ble_eq_true rfl) dX1_make_18 (fun H locs hP hD hS => ?_)
  have hP : va_P (dC, dI) vwCl [(k0, .inr (1, [.int mp, .int (nI (dk_q sd)), .int mo, .int hc, .long ms9, .int kp, .int kq, .int kn, .int pp, .int qq, .int gg, .ref k1, .int th])), (k1, .inl (b1, 8, .inl sk))] H := hP
  have hD : va_D A [(k0, .inr (1, [.int mp, .int (nI (dk_q sd)), .int mo, .int hc, .long ms9, .int kp, .int kq, .int kn, .int pp, .int qq, .int gg, .ref k1, .int th])), (k1, .inl (b1, 8, .inl sk))] := hD
  refine lv_aload_n hx hb dX1_make_21 rfl (lv_at hl 1 rfl) ?_
  refine lv_aload_n hx hb dX1_make_22 rfl (lv_at hl 1 rfl) ?_
  refine va_get (D := (dC, dI)) (ci := 1) (v := .int (nI (dk_q sd))) (C := RX1) (T := TX1) (N := 13) hx hb hts (by decide +kernel) hown hK hP 0 rfl rfl 1 (by decide) (hts (.fieldLink RX1 31 "DomainKeysModel" "madeQ" "I") (by decide +kernel)) (fun _ h9 => h9) rfl dX1_make_23 ?_
  refine vp_callSi (W.runS (As := [.int (nI (dk_q sd))]) (rest := [.ref k0]) ⟨hx, hb, hml, hown, hts⟩ (dk_m_prime l (dk_q sd) (by have := dk_q_in sd; omega)) (va_cwS 1 hts gX1_make_X1_prime rfl rfl rfl (by decide +kernel) ⟨Nat.le_of_ble_eq_true rfl, Nat.le_of_ble_eq_true rfl⟩) ⟨fun _ _ _ _ q9 => q9, fun U hU hW => ⟨rfl, trivial⟩⟩ rfl rfl hl.1 rfl (lv_room (Nat.le_of_ble_eq_true rfl)) dX1_make_26 ⟨Nat.le_of_ble_eq_true rfl, Nat.le_of_ble_eq_true rfl⟩) (fun r_26 hr_26 => ?_)
  refine lv_if_eq (tgt := 37) hx hb dX1_make_29 (by decide) (fun c_29 => ?_) (fun c_29 => ?_)
  · have hpq : ¬ dk_pr (dk_q sd) := by
      rcases hr_26 with ⟨q, -⟩ | ⟨-, q⟩
      · rw [q] at c_29; exact absurd c_29 (by decide)
      · exact q
    refine lv_iconst (v := (-1)) hx hb dX1_make_37 (by decide) ?_
    refine va_put (D := (dC, dI)) (ci := 1) (v := .int (-1)) (ty := .int) (C := RX1) (T := TX1) (N := 13) hx hb hts (by decide +kernel) tyX1 tyX1_ok nmX1 hown hK hP hD hS 0 rfl rfl 2 (by decide) (hts (.fieldLink RX1 38 "DomainKeysModel" "outcome" "I") (by decide +kernel)) (fun _ h9 => h9) rfl (by decide +kernel) rfl rfl (Nat.le_of_ble_eq_true rfl) dX1_make_38 (fun H locs hP hD hS => ?_)
    have hP : va_P (dC, dI) vwCl [(k0, .inr (1, [.int mp, .int (nI (dk_q sd)), .int (-1), .int hc, .long ms9, .int kp, .int kq, .int kn, .int pp, .int qq, .int gg, .ref k1, .int th])), (k1, .inl (b1, 8, .inl sk))] H := hP
    have hD : va_D A [(k0, .inr (1, [.int mp, .int (nI (dk_q sd)), .int (-1), .int hc, .long ms9, .int kp, .int kq, .int kn, .int pp, .int qq, .int gg, .ref k1, .int th])), (k1, .inl (b1, 8, .inl sk))] := hD
    refine lv_iconst (v := 0) hx hb dX1_make_41 (by decide) ?_
    refine lv_istore (lv' := [(5, .int 0), (3, .long (lN (dk_hN sd 0 / 2251799813685248))), (0, .ref k0), (1, .long sd)]) hx hb dX1_make_42 hl (by decide) rfl (fun ls hl => ?_)
    refine lv_iload hx hb dX1_make_44 (lv_at hl 0 rfl) ?_
    refine lv_bipush (v := 64) hx hb dX1_make_46 (by decide) ?_
    refine lv_icmp_ge (tgt := 134) hx hb dX1_make_48 (by decide) (fun c_48 => ?_) (fun c_48 => ?_)
    · exact absurd c_48 (by decide)
    · refine lv_aload_n hx hb dX1_make_51 rfl (lv_at hl 2 rfl) ?_
      refine va_get (D := (dC, dI)) (ci := 1) (v := .int (-1)) (C := RX1) (T := TX1) (N := 13) hx hb hts (by decide +kernel) hown hK hP 0 rfl rfl 2 (by decide) (hts (.fieldLink RX1 38 "DomainKeysModel" "outcome" "I") (by decide +kernel)) (fun _ h9 => h9) rfl dX1_make_52 ?_
      refine lv_bipush (v := (-2)) hx hb dX1_make_55 (by decide) ?_
      refine lv_icmp_ne (tgt := 134) hx hb dX1_make_57 (by decide) (fun c_57 => ?_) (fun c_57 => ?_)
      · exact W.vret hx hb hr (fun t ht hW => ⟨⟨(mp, nI (dk_q sd), (-1), hc, ms9, kp, kq, kn, pp, qq, gg, th, sk), rfl, ⟨mp, -1, ⟨Or.inl ⟨hpq, rfl⟩, fun n9 q1 q2 => absurd q2 (dk_n1 (by omega))⟩, rfl⟩, by rw [ht]; exact hP, va_K.moved hW.alike hK, hD⟩, hS.F ht⟩) hS.2.2 dX1_make_134
      · exact absurd c_57 (by decide)
  · have hpq : dk_pr (dk_q sd) := by
      rcases hr_26 with ⟨-, q⟩ | ⟨q, -⟩
      · exact q
      · exact absurd q c_29
    refine lv_bipush (v := (-2)) hx hb dX1_make_32 (by decide) ?_
    refine lv_goto (tgt := 38) hx hb dX1_make_34 (by decide) ?_
    refine va_put (D := (dC, dI)) (ci := 1) (v := .int (-2)) (ty := .int) (C := RX1) (T := TX1) (N := 13) hx hb hts (by decide +kernel) tyX1 tyX1_ok nmX1 hown hK hP hD hS 0 rfl rfl 2 (by decide) (hts (.fieldLink RX1 38 "DomainKeysModel" "outcome" "I") (by decide +kernel)) (fun _ h9 => h9) rfl (by decide +kernel) rfl rfl (Nat.le_of_ble_eq_true rfl) dX1_make_38 (fun H locs hP hD hS => ?_)
    have hP : va_P (dC, dI) vwCl [(k0, .inr (1, [.int mp, .int (nI (dk_q sd)), .int (-2), .int hc, .long ms9, .int kp, .int kq, .int kn, .int pp, .int qq, .int gg, .ref k1, .int th])), (k1, .inl (b1, 8, .inl sk))] H := hP
    have hD : va_D A [(k0, .inr (1, [.int mp, .int (nI (dk_q sd)), .int (-2), .int hc, .long ms9, .int kp, .int kq, .int kn, .int pp, .int qq, .int gg, .ref k1, .int th])), (k1, .inl (b1, 8, .inl sk))] := hD
    refine lv_iconst (v := 0) hx hb dX1_make_41 (by decide) ?_
    refine lv_istore (lv' := [(5, .int 0), (3, .long (lN (dk_hN sd 0 / 2251799813685248))), (0, .ref k0), (1, .long sd)]) hx hb dX1_make_42 hl (by decide) rfl (fun ls hl => ?_)
    refine dk_make_loop dC dI k0 k1 b1 mp mq mo hc ms9 kp kq kn pp qq gg th sk sd hpq hx hb hml hown hts hA hK (fun mp2 r2 H locs ls hmk hP hD hS => ?_) 65 0 H locs ls (by omega) (by omega) (fun j hj => absurd hj (by omega)) hP hD hS (lv_sub hl [2, 3, 0] rfl)
    exact W.vret hx hb hr (fun t ht hW => ⟨⟨(mp2, nI (dk_q sd), r2, hc, ms9, kp, kq, kn, pp, qq, gg, th, sk), rfl, ⟨mp2, r2, hmk, rfl⟩, by rw [ht]; exact hP, va_K.moved hW.alike hK, hD⟩, hS.F ht⟩) hS.2.2 dX1_make_134

set_option maxHeartbeats 4000000 in
set_option maxRecDepth 100000 in
theorem dk_m_generate (l : Launch) (dC : Nat → ClassId) (dI : Nat → Nat → Nat) (k0 k1 : Nat) (b1 : ClassId) (mp mq mo hc : Int32) (ms9 : Int64) (kp kq kn pp qq gg th : Int32) (sk : Nat → Int32) (sd : Int64) (sz : Nat) : Met l yX1_generate wsX1_generate ({ frames := 2, cells := 0, slots := 0, locals := 54 }) (va_Pc [.ref k0, .long sd] (fun U => U.heap.size = sz ∧ va_P (dC, dI) vwCl [(k0, .inr (1, [.int mp, .int mq, .int mo, .int hc, .long ms9, .int kp, .int kq, .int kn, .int pp, .int qq, .int gg, .ref k1, .int th])), (k1, .inl (b1, 8, .inl sk))] U.heap ∧ va_K (dC, dI) vwCl [(b1, .int)] U ∧ va_D (fun _ => True) [(k0, .inr (1, [.int mp, .int mq, .int mo, .int hc, .long ms9, .int kp, .int kq, .int kn, .int pp, .int qq, .int gg, .ref k1, .int th])), (k1, .inl (b1, 8, .inl sk))])) (va_Qi (fun (r9 : Int32) (u9 : dk_T) => dk_Mk sd r9 ∧ ((r9 < 0 ∧ ∃ mp2 : Int32, u9 = (mp2, nI (dk_q sd), r9, hc, ms9, kp, kq, kn, pp, qq, gg, 0, sk)) ∨ ∃ n9 : Nat, n9 < 64 ∧ dk_ok sd n9 ∧ dk_pr (dk_q sd) ∧ r9 = nI n9 ∧ u9 = (nI (dk_try sd n9), nI (dk_q sd), nI n9, 1, sd, nI (dk_try sd n9), nI (dk_q sd), nI n9, pp, qq, gg, 0, sk))) (dk_C dC dI (va_A [(k0, .inr (1, [.int mp, .int mq, .int mo, .int hc, .long ms9, .int kp, .int kq, .int kn, .int pp, .int qq, .int gg, .ref k1, .int th])), (k1, .inl (b1, 8, .inl sk))] sz) k0 k1 b1) (va_A [(k0, .inr (1, [.int mp, .int mq, .int mo, .int hc, .long ms9, .int kp, .int kq, .int kn, .int pp, .int qq, .int gg, .ref k1, .int th])), (k1, .inl (b1, 8, .inl sk))] sz)) 0 0 (va_A [(k0, .inr (1, [.int mp, .int mq, .int mo, .int hc, .long ms9, .int kp, .int kq, .int kn, .int pp, .int qq, .int gg, .ref k1, .int th])), (k1, .inl (b1, 8, .inl sk))] sz) := by
  refine Met.ofW (cc := cX1_generate) (maxL := 3) (ret := (some .int)) (by decide) rfl ?_
  intro p e s m args below meth c s₁ B hml hv
  obtain ⟨rfl, hsz, hP, hK, hD0⟩ := hv
  have hx := B.exec
  have hb := B.bytes
  have hr := B.returns
  have hts := atoms_spec (ws := wsX1_generate) B.pre
  have hown : s.vm.findClass RX1 = some m.cls := findClass_of_methodNamed B.named
  have hlocks := B.notSynchronized
  subst hsz
  have hD := hD0.self (sz := s.heap.size)
  generalize hAe : va_A [(k0, .inr (1, [.int mp, .int mq, .int mo, .int hc, .long ms9, .int kp, .int kq, .int kn, .int pp, .int qq, .int gg, .ref k1, .int th])), (k1, .inl (b1, 8, .inl sk))] s.heap.size = A at hD ⊢
  have hA : ∀ q : Nat, s.heap.size ≤ q → A q := fun q h => by rw [← hAe]; exact Or.inr h
  have hS : va_S A s.heap s.heap [] := va_S.rf
  have hl := lv_entry ([.ref k0, .long sd]) (n := 3) (Nat.le_of_ble_eq_true rfl)
  rw [lg_entry_eq]
  generalize (lg_sl ([.ref k0, .long sd]) ++ List.replicate (3 - (lg_sl ([.ref k0, .long sd])).length) Slot.unset).toArray = ls at hl ⊢
  have hl : lv_has ls 3 [(0, .ref k0), (1, .long sd)] := hl
  refine lv_aload_n hx hb dX1_generate_0 rfl (lv_at hl 0 rfl) ?_
  refine lv_iconst (v := 0) hx hb dX1_generate_1 (by decide) ?_
  refine va_put (D := (dC, dI)) (ci := 1) (v := .int 0) (ty := .int) (C := RX1) (T := TX1) (N := 13) hx hb hts (by decide +kernel) tyX1 tyX1_ok nmX1 hown hK hP hD hS 0 rfl rfl 12 (by decide) (hts (.fieldLink RX1 13 "DomainKeysModel" "thrown" "I") (by decide +kernel)) (fun _ h9 => h9) rfl (by decide +kernel) rfl rfl (Nat.le_of_ble_eq_true rfl) dX1_generate_2 (fun H locs hP hD hS => ?_)
  have hP : va_P (dC, dI) vwCl [(k0, .inr (1, [.int mp, .int mq, .int mo, .int hc, .long ms9, .int kp, .int kq, .int kn, .int pp, .int qq, .int gg, .ref k1, .int 0])), (k1, .inl (b1, 8, .inl sk))] H := hP
  have hD : va_D A [(k0, .inr (1, [.int mp, .int mq, .int mo, .int hc, .long ms9, .int kp, .int kq, .int kn, .int pp, .int qq, .int gg, .ref k1, .int 0])), (k1, .inl (b1, 8, .inl sk))] := hD
  refine lv_aload_n hx hb dX1_generate_5 rfl (lv_at hl 0 rfl) ?_
  refine lv_lload_n hx hb dX1_generate_6 rfl (lv_at hl 1 rfl) ?_
  have hPc := hP.sub (ws' := [(k0, .inr (1, [.int mp, .int mq, .int mo, .int hc, .long ms9, .int kp, .int kq, .int kn, .int pp, .int qq, .int gg, .ref k1, .int 0])), (k1, .inl (b1, 8, .inl sk))]) [0, 1] rfl
  have hDc := hD.sub (ws' := [(k0, .inr (1, [.int mp, .int mq, .int mo, .int hc, .long ms9, .int kp, .int kq, .int kn, .int pp, .int qq, .int gg, .ref k1, .int 0])), (k1, .inl (b1, 8, .inl sk))]) [0, 1] (by decide) rfl
  have hKc := hK.sub (tys' := [(b1, .int)]) [0] rfl
  have hFc := va_free (wc := [(k0, .inr (1, [.int mp, .int mq, .int mo, .int hc, .long ms9, .int kp, .int kq, .int kn, .int pp, .int qq, .int gg, .ref k1, .int 0])), (k1, .inl (b1, 8, .inl sk))]) hD hS hA [0, 1] rfl
  refine va_callv (va_runV (As := [.long sd]) (rest := []) ⟨hx, hb, hml, hown, hts⟩ (dk_m_make l dC dI k0 k1 b1 mp mq mo hc ms9 kp kq kn pp qq gg 0 sk sd _) (cwV 1 hts gX1_generate_X1_make rfl rfl rfl (by decide +kernel) ⟨Nat.le_of_ble_eq_true rfl, Nat.le_of_ble_eq_true rfl⟩) ⟨fun a U g mk q => by obtain ⟨q0, q1, qP, qK, qD⟩ := q; exact ⟨q0, q1, qP, va_K.moved (u := U) (U := U.calling g mk a) (Vm.Alike.refl U.vm) qK, qD⟩, va_recv hKc hPc (ci := 1) (q0 := 0) rfl rfl, fun U hU hW => ⟨rfl, by rw [hU], by rw [hU]; exact hPc, va_K.moved hW.alike hKc, hDc.weaken (fun _ _ _ _ => trivial)⟩⟩ rfl rfl hl.1 rfl (lv_room (Nat.le_of_ble_eq_true rfl)) dX1_generate_7 ⟨Nat.le_of_ble_eq_true rfl, Nat.le_of_ble_eq_true rfl⟩) hS (fun q _ h => hFc q h) hFc (fun u t H1 locs ht hvm hw hB hz1 hk1 hS => ?_)
  obtain ⟨mp2, r2, ⟨hmk, hmp⟩, rfl⟩ := hw
  obtain ⟨hP1, hK1, hD1⟩ := hB
  rw [ht] at hP1
  have hK1 := va_K.moved hvm.symm hK1
  obtain ⟨hP, hD⟩ := va_join (wr := []) (w1 := [(k0, .inr (1, [.int mp2, .int (nI (dk_q sd)), .int r2, .int hc, .long ms9, .int kp, .int kq, .int kn, .int pp, .int qq, .int gg, .ref k1, .int 0])), (k1, .inl (b1, 8, .inl sk))]) hP hD [0, 1] [] rfl rfl (by decide) (by decide) hk1 hFc hP1 hD1
  have hK := (hK.sub (tys' := []) [] rfl).app hK1
  generalize H1 = H at hP hS ⊢
  have hP : va_P (dC, dI) vwCl [(k0, .inr (1, [.int mp2, .int (nI (dk_q sd)), .int r2, .int hc, .long ms9, .int kp, .int kq, .int kn, .int pp, .int qq, .int gg, .ref k1, .int 0])), (k1, .inl (b1, 8, .inl sk))] H := hP
  have hD : va_D A [(k0, .inr (1, [.int mp2, .int (nI (dk_q sd)), .int r2, .int hc, .long ms9, .int kp, .int kq, .int kn, .int pp, .int qq, .int gg, .ref k1, .int 0])), (k1, .inl (b1, 8, .inl sk))] := hD
  have hK : va_K (dC, dI) vwCl [(b1, .int)] s := hK
  refine lv_aload_n hx hb dX1_generate_10 rfl (lv_at hl 0 rfl) ?_
  refine va_get (D := (dC, dI)) (ci := 1) (v := .int r2) (C := RX1) (T := TX1) (N := 13) hx hb hts (by decide +kernel) hown hK hP 0 rfl rfl 2 (by decide) (hts (.fieldLink RX1 38 "DomainKeysModel" "outcome" "I") (by decide +kernel)) (fun _ h9 => h9) rfl dX1_generate_11 ?_
  refine lv_if_lt (tgt := 51) hx hb dX1_generate_14 (by decide) (fun c_14 => ?_) (fun c_14 => ?_)
  · refine lv_aload_n hx hb dX1_generate_51 rfl (lv_at hl 0 rfl) ?_
    refine va_get (D := (dC, dI)) (ci := 1) (v := .int r2) (C := RX1) (T := TX1) (N := 13) hx hb hts (by decide +kernel) hown hK hP 0 rfl rfl 2 (by decide) (hts (.fieldLink RX1 38 "DomainKeysModel" "outcome" "I") (by decide +kernel)) (fun _ h9 => h9) rfl dX1_generate_52 ?_
    exact W.iret (v := r2) hx hb hr (fun t ht hW => ⟨⟨r2, (mp2, nI (dk_q sd), r2, hc, ms9, kp, kq, kn, pp, qq, gg, 0, sk), rfl, ⟨hmk, Or.inl ⟨c_14, mp2, rfl⟩⟩, by rw [ht]; exact hP, va_K.moved hW.alike hK, hD⟩, hS.F ht⟩) hS.2.2 dX1_generate_55
  · obtain ⟨n9, hn9, hok, hpq, rfl⟩ : ∃ n9 : Nat, n9 < 64 ∧ dk_ok sd n9 ∧ dk_pr (dk_q sd) ∧ r2 = nI n9 := by
      rcases hmk with ⟨-, q⟩ | ⟨q1, n9, q2, q3, q4, q⟩ | ⟨-, -, q⟩
      · exact absurd (by rw [q]; decide) c_14
      · exact ⟨n9, q2, q3, q1, q⟩
      · exact absurd (by rw [q]; decide) c_14
    obtain rfl := hmp n9 hn9 rfl
    refine lv_aload_n hx hb dX1_generate_17 rfl (lv_at hl 0 rfl) ?_
    refine lv_iconst (v := 1) hx hb dX1_generate_18 (by decide) ?_
    refine va_put (D := (dC, dI)) (ci := 1) (v := .int 1) (ty := .boolean) (C := RX1) (T := TX1) (N := 13) hx hb hts (by decide +kernel) tyX1 tyX1_ok nmX1 hown hK hP hD hS 0 rfl rfl 3 (by decide) (hts (.fieldLink RX1 50 "DomainKeysModel" "hasCandidate" "Z") (by decide +kernel)) (fun _ h9 => h9) rfl (by decide +kernel) rfl rfl (Nat.le_of_ble_eq_true rfl) dX1_generate_19 (fun H locs hP hD hS => ?_)
    have hP : va_P (dC, dI) vwCl [(k0, .inr (1, [.int (nI (dk_try sd n9)), .int (nI (dk_q sd)), .int (nI n9), .int 1, .long ms9, .int kp, .int kq, .int kn, .int pp, .int qq, .int gg, .ref k1, .int 0])), (k1, .inl (b1, 8, .inl sk))] H := hP
    have hD : va_D A [(k0, .inr (1, [.int (nI (dk_try sd n9)), .int (nI (dk_q sd)), .int (nI n9), .int 1, .long ms9, .int kp, .int kq, .int kn, .int pp, .int qq, .int gg, .ref k1, .int 0])), (k1, .inl (b1, 8, .inl sk))] := hD
    refine lv_aload_n hx hb dX1_generate_22 rfl (lv_at hl 0 rfl) ?_
    refine lv_lload_n hx hb dX1_generate_23 rfl (lv_at hl 1 rfl) ?_
    refine va_put (D := (dC, dI)) (ci := 1) (v := .long sd) (ty := .long) (C := RX1) (T := TX1) (N := 13) hx hb hts (by decide +kernel) tyX1 tyX1_ok nmX1 hown hK hP hD hS 0 rfl rfl 4 (by decide) (hts (.fieldLink RX1 54 "DomainKeysModel" "seed" "J") (by decide +kernel)) (fun _ h9 => h9) rfl (by decide +kernel) rfl rfl (Nat.le_of_ble_eq_true rfl) dX1_generate_24 (fun H locs hP hD hS => ?_)
    have hP : va_P (dC, dI) vwCl [(k0, .inr (1, [.int (nI (dk_try sd n9)), .int (nI (dk_q sd)), .int (nI n9), .int 1, .long sd, .int kp, .int kq, .int kn, .int pp, .int qq, .int gg, .ref k1, .int 0])), (k1, .inl (b1, 8, .inl sk))] H := hP
    have hD : va_D A [(k0, .inr (1, [.int (nI (dk_try sd n9)), .int (nI (dk_q sd)), .int (nI n9), .int 1, .long sd, .int kp, .int kq, .int kn, .int pp, .int qq, .int gg, .ref k1, .int 0])), (k1, .inl (b1, 8, .inl sk))] := hD
    refine lv_aload_n hx hb dX1_generate_27 rfl (lv_at hl 0 rfl) ?_
    refine lv_aload_n hx hb dX1_generate_28 rfl (lv_at hl 0 rfl) ?_
    refine va_get (D := (dC, dI)) (ci := 1) (v := .int (nI (dk_try sd n9))) (C := RX1) (T := TX1) (N := 13) hx hb hts (by decide +kernel) hown hK hP 0 rfl rfl 0 (by decide) (hts (.fieldLink RX1 43 "DomainKeysModel" "madeP" "I") (by decide +kernel)) (fun _ h9 => h9) rfl dX1_generate_29 ?_
    refine va_put (D := (dC, dI)) (ci := 1) (v := .int (nI (dk_try sd n9))) (ty := .int) (C := RX1) (T := TX1) (N := 13) hx hb hts (by decide +kernel) tyX1 tyX1_ok nmX1 hown hK hP hD hS 0 rfl rfl 5 (by decide) (hts (.fieldLink RX1 58 "DomainKeysModel" "candidateP" "I") (by decide +kernel)) (fun _ h9 => h9) rfl (by decide +kernel) rfl rfl (Nat.le_of_ble_eq_true rfl) dX1_generate_32 (fun H locs hP hD hS => ?_)
    have hP : va_P (dC, dI) vwCl [(k0, .inr (1, [.int (nI (dk_try sd n9)), .int (nI (dk_q sd)), .int (nI n9), .int 1, .long sd, .int (nI (dk_try sd n9)), .int kq, .int kn, .int pp, .int qq, .int gg, .ref k1, .int 0])), (k1, .inl (b1, 8, .inl sk))] H := hP
    have hD : va_D A [(k0, .inr (1, [.int (nI (dk_try sd n9)), .int (nI (dk_q sd)), .int (nI n9), .int 1, .long sd, .int (nI (dk_try sd n9)), .int kq, .int kn, .int pp, .int qq, .int gg, .ref k1, .int 0])), (k1, .inl (b1, 8, .inl sk))] := hD
    refine lv_aload_n hx hb dX1_generate_35 rfl (lv_at hl 0 rfl) ?_
    refine lv_aload_n hx hb dX1_generate_36 rfl (lv_at hl 0 rfl) ?_
    refine va_get (D := (dC, dI)) (ci := 1) (v := .int (nI (dk_q sd))) (C := RX1) (T := TX1) (N := 13) hx hb hts (by decide +kernel) hown hK hP 0 rfl rfl 1 (by decide) (hts (.fieldLink RX1 31 "DomainKeysModel" "madeQ" "I") (by decide +kernel)) (fun _ h9 => h9) rfl dX1_generate_37 ?_
    refine va_put (D := (dC, dI)) (ci := 1) (v := .int (nI (dk_q sd))) (ty := .int) (C := RX1) (T := TX1) (N := 13) hx hb hts (by decide +kernel) tyX1 tyX1_ok nmX1 hown hK hP hD hS 0 rfl rfl 6 (by decide) (hts (.fieldLink RX1 61 "DomainKeysModel" "candidateQ" "I") (by decide +kernel)) (fun _ h9 => h9) rfl (by decide +kernel) rfl rfl (Nat.le_of_ble_eq_true rfl) dX1_generate_40 (fun H locs hP hD hS => ?_)
    have hP : va_P (dC, dI) vwCl [(k0, .inr (1, [.int (nI (dk_try sd n9)), .int (nI (dk_q sd)), .int (nI n9), .int 1, .long sd, .int (nI (dk_try sd n9)), .int (nI (dk_q sd)), .int kn, .int pp, .int qq, .int gg, .ref k1, .int 0])), (k1, .inl (b1, 8, .inl sk))] H := hP
    have hD : va_D A [(k0, .inr (1, [.int (nI (dk_try sd n9)), .int (nI (dk_q sd)), .int (nI n9), .int 1, .long sd, .int (nI (dk_try sd n9)), .int (nI (dk_q sd)), .int kn, .int pp, .int qq, .int gg, .ref k1, .int 0])), (k1, .inl (b1, 8, .inl sk))] := hD
    refine lv_aload_n hx hb dX1_generate_43 rfl (lv_at hl 0 rfl) ?_
    refine lv_aload_n hx hb dX1_generate_44 rfl (lv_at hl 0 rfl) ?_
    refine va_get (D := (dC, dI)) (ci := 1) (v := .int (nI n9)) (C := RX1) (T := TX1) (N := 13) hx hb hts (by decide +kernel) hown hK hP 0 rfl rfl 2 (by decide) (hts (.fieldLink RX1 38 "DomainKeysModel" "outcome" "I") (by decide +kernel)) (fun _ h9 => h9) rfl dX1_generate_45 ?_
    refine va_put (D := (dC, dI)) (ci := 1) (v := .int (nI n9)) (ty := .int) (C := RX1) (T := TX1) (N := 13) hx hb hts (by decide +kernel) tyX1 tyX1_ok nmX1 hown hK hP hD hS 0 rfl rfl 7 (by decide) (hts (.fieldLink RX1 64 "DomainKeysModel" "candidateCounter" "I") (by decide +kernel)) (fun _ h9 => h9) rfl (by decide +kernel) rfl rfl (Nat.le_of_ble_eq_true rfl) dX1_generate_48 (fun H locs hP hD hS => ?_)
    have hP : va_P (dC, dI) vwCl [(k0, .inr (1, [.int (nI (dk_try sd n9)), .int (nI (dk_q sd)), .int (nI n9), .int 1, .long sd, .int (nI (dk_try sd n9)), .int (nI (dk_q sd)), .int (nI n9), .int pp, .int qq, .int gg, .ref k1, .int 0])), (k1, .inl (b1, 8, .inl sk))] H := hP
    have hD : va_D A [(k0, .inr (1, [.int (nI (dk_try sd n9)), .int (nI (dk_q sd)), .int (nI n9), .int 1, .long sd, .int (nI (dk_try sd n9)), .int (nI (dk_q sd)), .int (nI n9), .int pp, .int qq, .int gg, .ref k1, .int 0])), (k1, .inl (b1, 8, .inl sk))] := hD
    refine lv_aload_n hx hb dX1_generate_51 rfl (lv_at hl 0 rfl) ?_
    refine va_get (D := (dC, dI)) (ci := 1) (v := .int (nI n9)) (C := RX1) (T := TX1) (N := 13) hx hb hts (by decide +kernel) hown hK hP 0 rfl rfl 2 (by decide) (hts (.fieldLink RX1 38 "DomainKeysModel" "outcome" "I") (by decide +kernel)) (fun _ h9 => h9) rfl dX1_generate_52 ?_
    exact W.iret (v := (nI n9)) hx hb hr (fun t ht hW => ⟨⟨nI n9, (nI (dk_try sd n9), nI (dk_q sd), nI n9, 1, sd, nI (dk_try sd n9), nI (dk_q sd), nI n9, pp, qq, gg, 0, sk), rfl, ⟨hmk, Or.inr ⟨n9, hn9, hok, hpq, rfl, rfl⟩⟩, by rw [ht]; exact hP, va_K.moved hW.alike hK, hD⟩, hS.F ht⟩) hS.2.2 dX1_generate_55

set_option maxHeartbeats 4000000 in
set_option maxRecDepth 100000 in
theorem dk_m_candidate (l : Launch) (dC : Nat → ClassId) (dI : Nat → Nat → Nat) (k0 k1 : Nat) (b1 : ClassId) (mp mq mo hc : Int32) (ms9 : Int64) (kp kq kn pp qq gg th : Int32) (sk : Nat → Int32) (x : Int32) (sz : Nat) : Met l yX1_candidate wsX1_candidate ({ frames := 0, cells := 0, slots := 0, locals := 0 }) (va_Pc [.ref k0, .int x] (fun U => U.heap.size = sz ∧ va_P (dC, dI) vwCl [(k0, .inr (1, [.int mp, .int mq, .int mo, .int hc, .long ms9, .int kp, .int kq, .int kn, .int pp, .int qq, .int gg, .ref k1, .int th])), (k1, .inl (b1, 8, .inl sk))] U.heap ∧ va_K (dC, dI) vwCl [(b1, .int)] U ∧ va_D (fun _ => True) [(k0, .inr (1, [.int mp, .int mq, .int mo, .int hc, .long ms9, .int kp, .int kq, .int kn, .int pp, .int qq, .int gg, .ref k1, .int th])), (k1, .inl (b1, 8, .inl sk))])) (va_Ql (fun (r9 : Int64) (u9 : dk_T) => u9 = (mp, mq, mo, hc, ms9, kp, kq, kn, pp, qq, gg, 0, sk) ∧ r9 = if hc = 0 then 0 else dk_fcand kp kq ms9 kn x) (dk_C dC dI (va_A [(k0, .inr (1, [.int mp, .int mq, .int mo, .int hc, .long ms9, .int kp, .int kq, .int kn, .int pp, .int qq, .int gg, .ref k1, .int th])), (k1, .inl (b1, 8, .inl sk))] sz) k0 k1 b1) (va_A [(k0, .inr (1, [.int mp, .int mq, .int mo, .int hc, .long ms9, .int kp, .int kq, .int kn, .int pp, .int qq, .int gg, .ref k1, .int th])), (k1, .inl (b1, 8, .inl sk))] sz)) 0 0 (va_A [(k0, .inr (1, [.int mp, .int mq, .int mo, .int hc, .long ms9, .int kp, .int kq, .int kn, .int pp, .int qq, .int gg, .ref k1, .int th])), (k1, .inl (b1, 8, .inl sk))] sz) := by
  refine Met.ofW (cc := cX1_candidate) (maxL := 2) (ret := (some .long)) (by decide) rfl ?_
  intro p e s m args below meth c s₁ B hml hv
  obtain ⟨rfl, hsz, hP, hK, hD0⟩ := hv
  have hx := B.exec
  have hb := B.bytes
  have hr := B.returns
  have hts := atoms_spec (ws := wsX1_candidate) B.pre
  have hown : s.vm.findClass RX1 = some m.cls := findClass_of_methodNamed B.named
  have hlocks := B.notSynchronized
  subst hsz
  have hD := hD0.self (sz := s.heap.size)
  generalize hAe : va_A [(k0, .inr (1, [.int mp, .int mq, .int mo, .int hc, .long ms9, .int kp, .int kq, .int kn, .int pp, .int qq, .int gg, .ref k1, .int th])), (k1, .inl (b1, 8, .inl sk))] s.heap.size = A at hD ⊢
  have hA : ∀ q : Nat, s.heap.size ≤ q → A q := fun q h => by rw [← hAe]; exact Or.inr h
  have hS : va_S A s.heap s.heap [] := va_S.rf
  have hl := lv_entry ([.ref k0, .int x]) (n := 2) (Nat.le_of_ble_eq_true rfl)
  rw [lg_entry_eq]
  generalize (lg_sl ([.ref k0, .int x]) ++ List.replicate (2 - (lg_sl ([.ref k0, .int x])).length) Slot.unset).toArray = ls at hl ⊢
  have hl : lv_has ls 2 [(0, .ref k0), (1, .int x)] := hl
  refine lv_aload_n hx hb dX1_candidate_0 rfl (lv_at hl 0 rfl) ?_
  refine lv_iconst (v := 0) hx hb dX1_candidate_1 (by decide) ?_
  refine va_put (D := (dC, dI)) (ci := 1) (v := .int 0) (ty := .int) (C := RX1) (T := TX1) (N := 13) hx hb hts (by decide +kernel) tyX1 tyX1_ok nmX1 hown hK hP hD hS 0 rfl rfl 12 (by decide) (hts (.fieldLink RX1 13 "DomainKeysModel" "thrown" "I") (by decide +kernel)) (fun _ h9 => h9) rfl (by decide +kernel) rfl rfl (Nat.le_of_ble_eq_true rfl) dX1_candidate_2 (fun H locs hP hD hS => ?_)
  have hP : va_P (dC, dI) vwCl [(k0, .inr (1, [.int mp, .int mq, .int mo, .int hc, .long ms9, .int kp, .int kq, .int kn, .int pp, .int qq, .int gg, .ref k1, .int 0])), (k1, .inl (b1, 8, .inl sk))] H := hP
  have hD : va_D A [(k0, .inr (1, [.int mp, .int mq, .int mo, .int hc, .long ms9, .int kp, .int kq, .int kn, .int pp, .int qq, .int gg, .ref k1, .int 0])), (k1, .inl (b1, 8, .inl sk))] := hD
  refine lv_aload_n hx hb dX1_candidate_5 rfl (lv_at hl 0 rfl) ?_
  refine va_get (D := (dC, dI)) (ci := 1) (v := .int hc) (C := RX1) (T := TX1) (N := 13) hx hb hts (by decide +kernel) hown hK hP 0 rfl rfl 3 (by decide) (hts (.fieldLink RX1 50 "DomainKeysModel" "hasCandidate" "Z") (by decide +kernel)) (fun _ h9 => h9) rfl dX1_candidate_6 ?_
  refine lv_if_ne (tgt := 14) hx hb dX1_candidate_9 (by decide) (fun c_9 => ?_) (fun c_9 => ?_)
  · refine lv_iload_n hx hb dX1_candidate_14 rfl (lv_at hl 1 rfl) ?_
    refine lv_if_ne (tgt := 26) hx hb dX1_candidate_15 (by decide) (fun c_15 => ?_) (fun c_15 => ?_)
    · refine lv_iload_n hx hb dX1_candidate_26 rfl (lv_at hl 1 rfl) ?_
      refine lv_iconst (v := 1) hx hb dX1_candidate_27 (by decide) ?_
      refine lv_icmp_ne (tgt := 39) hx hb dX1_candidate_28 (by decide) (fun c_28 => ?_) (fun c_28 => ?_)
      · refine lv_iload_n hx hb dX1_candidate_39 rfl (lv_at hl 1 rfl) ?_
        refine lv_iconst (v := 2) hx hb dX1_candidate_40 (by decide) ?_
        refine lv_icmp_ne (tgt := 51) hx hb dX1_candidate_41 (by decide) (fun c_41 => ?_) (fun c_41 => ?_)
        · refine lv_iload_n hx hb dX1_candidate_51 rfl (lv_at hl 1 rfl) ?_
          refine lv_iconst (v := 3) hx hb dX1_candidate_52 (by decide) ?_
          refine lv_icmp_ne (tgt := 64) hx hb dX1_candidate_53 (by decide) (fun c_53 => ?_) (fun c_53 => ?_)
          · refine lv_lconst (v := 0) hx hb dX1_candidate_64 (by decide) ?_
            exact W.lret (v := 0) hx hb hr (fun t ht hW => ⟨⟨0, (mp, mq, mo, hc, ms9, kp, kq, kn, pp, qq, gg, 0, sk), rfl, ⟨rfl, by rw [if_neg c_9, dk_fcand, if_neg c_15, if_neg c_28, if_neg c_41, if_neg c_53]⟩, by rw [ht]; exact hP, va_K.moved hW.alike hK, hD⟩, hS.F ht⟩) hS.2.2 dX1_candidate_65
          · refine lv_aload_n hx hb dX1_candidate_56 rfl (lv_at hl 0 rfl) ?_
            refine va_get (D := (dC, dI)) (ci := 1) (v := .int kn) (C := RX1) (T := TX1) (N := 13) hx hb hts (by decide +kernel) hown hK hP 0 rfl rfl 7 (by decide) (hts (.fieldLink RX1 64 "DomainKeysModel" "candidateCounter" "I") (by decide +kernel)) (fun _ h9 => h9) rfl dX1_candidate_57 ?_
            refine lv_i2l hx hb dX1_candidate_60 rfl ?_
            refine lv_goto (tgt := 65) hx hb dX1_candidate_61 (by decide) ?_
            exact W.lret (v := kn.toInt64) hx hb hr (fun t ht hW => ⟨⟨kn.toInt64, (mp, mq, mo, hc, ms9, kp, kq, kn, pp, qq, gg, 0, sk), rfl, ⟨rfl, by rw [if_neg c_9, dk_fcand, if_neg c_15, if_neg c_28, if_neg c_41, if_pos c_53]⟩, by rw [ht]; exact hP, va_K.moved hW.alike hK, hD⟩, hS.F ht⟩) hS.2.2 dX1_candidate_65
        · refine lv_aload_n hx hb dX1_candidate_44 rfl (lv_at hl 0 rfl) ?_
          refine va_get (D := (dC, dI)) (ci := 1) (v := .long ms9) (C := RX1) (T := TX1) (N := 13) hx hb hts (by decide +kernel) hown hK hP 0 rfl rfl 4 (by decide) (hts (.fieldLink RX1 54 "DomainKeysModel" "seed" "J") (by decide +kernel)) (fun _ h9 => h9) rfl dX1_candidate_45 ?_
          refine lv_goto (tgt := 65) hx hb dX1_candidate_48 (by decide) ?_
          exact W.lret (v := ms9) hx hb hr (fun t ht hW => ⟨⟨ms9, (mp, mq, mo, hc, ms9, kp, kq, kn, pp, qq, gg, 0, sk), rfl, ⟨rfl, by rw [if_neg c_9, dk_fcand, if_neg c_15, if_neg c_28, if_pos c_41]⟩, by rw [ht]; exact hP, va_K.moved hW.alike hK, hD⟩, hS.F ht⟩) hS.2.2 dX1_candidate_65
      · refine lv_aload_n hx hb dX1_candidate_31 rfl (lv_at hl 0 rfl) ?_
        refine va_get (D := (dC, dI)) (ci := 1) (v := .int kq) (C := RX1) (T := TX1) (N := 13) hx hb hts (by decide +kernel) hown hK hP 0 rfl rfl 6 (by decide) (hts (.fieldLink RX1 61 "DomainKeysModel" "candidateQ" "I") (by decide +kernel)) (fun _ h9 => h9) rfl dX1_candidate_32 ?_
        refine lv_i2l hx hb dX1_candidate_35 rfl ?_
        refine lv_goto (tgt := 65) hx hb dX1_candidate_36 (by decide) ?_
        exact W.lret (v := kq.toInt64) hx hb hr (fun t ht hW => ⟨⟨kq.toInt64, (mp, mq, mo, hc, ms9, kp, kq, kn, pp, qq, gg, 0, sk), rfl, ⟨rfl, by rw [if_neg c_9, dk_fcand, if_neg c_15, if_pos c_28]⟩, by rw [ht]; exact hP, va_K.moved hW.alike hK, hD⟩, hS.F ht⟩) hS.2.2 dX1_candidate_65
    · refine lv_aload_n hx hb dX1_candidate_18 rfl (lv_at hl 0 rfl) ?_
      refine va_get (D := (dC, dI)) (ci := 1) (v := .int kp) (C := RX1) (T := TX1) (N := 13) hx hb hts (by decide +kernel) hown hK hP 0 rfl rfl 5 (by decide) (hts (.fieldLink RX1 58 "DomainKeysModel" "candidateP" "I") (by decide +kernel)) (fun _ h9 => h9) rfl dX1_candidate_19 ?_
      refine lv_i2l hx hb dX1_candidate_22 rfl ?_
      refine lv_goto (tgt := 65) hx hb dX1_candidate_23 (by decide) ?_
      exact W.lret (v := kp.toInt64) hx hb hr (fun t ht hW => ⟨⟨kp.toInt64, (mp, mq, mo, hc, ms9, kp, kq, kn, pp, qq, gg, 0, sk), rfl, ⟨rfl, by rw [if_neg c_9, dk_fcand, if_pos c_15]⟩, by rw [ht]; exact hP, va_K.moved hW.alike hK, hD⟩, hS.F ht⟩) hS.2.2 dX1_candidate_65
  · refine lv_lconst (v := 0) hx hb dX1_candidate_12 (by decide) ?_
    exact W.lret (v := 0) hx hb hr (fun t ht hW => ⟨⟨0, (mp, mq, mo, hc, ms9, kp, kq, kn, pp, qq, gg, 0, sk), rfl, ⟨rfl, (if_pos c_9).symm⟩, by rw [ht]; exact hP, va_K.moved hW.alike hK, hD⟩, hS.F ht⟩) hS.2.2 dX1_candidate_13

set_option maxHeartbeats 4000000 in
set_option maxRecDepth 100000 in
theorem dk_m_domain (l : Launch) (dC : Nat → ClassId) (dI : Nat → Nat → Nat) (k0 k1 : Nat) (b1 : ClassId) (mp mq mo hc : Int32) (ms9 : Int64) (kp kq kn pp qq gg th : Int32) (sk : Nat → Int32) (x : Int32) (sz : Nat) : Met l yX1_domain wsX1_domain ({ frames := 0, cells := 0, slots := 0, locals := 0 }) (va_Pc [.ref k0, .int x] (fun U => U.heap.size = sz ∧ va_P (dC, dI) vwCl [(k0, .inr (1, [.int mp, .int mq, .int mo, .int hc, .long ms9, .int kp, .int kq, .int kn, .int pp, .int qq, .int gg, .ref k1, .int th])), (k1, .inl (b1, 8, .inl sk))] U.heap ∧ va_K (dC, dI) vwCl [(b1, .int)] U ∧ va_D (fun _ => True) [(k0, .inr (1, [.int mp, .int mq, .int mo, .int hc, .long ms9, .int kp, .int kq, .int kn, .int pp, .int qq, .int gg, .ref k1, .int th])), (k1, .inl (b1, 8, .inl sk))])) (va_Qi (fun (r9 : Int32) (u9 : dk_T) => u9 = (mp, mq, mo, hc, ms9, kp, kq, kn, pp, qq, gg, 0, sk) ∧ r9 = dk_fdom pp qq gg x) (dk_C dC dI (va_A [(k0, .inr (1, [.int mp, .int mq, .int mo, .int hc, .long ms9, .int kp, .int kq, .int kn, .int pp, .int qq, .int gg, .ref k1, .int th])), (k1, .inl (b1, 8, .inl sk))] sz) k0 k1 b1) (va_A [(k0, .inr (1, [.int mp, .int mq, .int mo, .int hc, .long ms9, .int kp, .int kq, .int kn, .int pp, .int qq, .int gg, .ref k1, .int th])), (k1, .inl (b1, 8, .inl sk))] sz)) 0 0 (va_A [(k0, .inr (1, [.int mp, .int mq, .int mo, .int hc, .long ms9, .int kp, .int kq, .int kn, .int pp, .int qq, .int gg, .ref k1, .int th])), (k1, .inl (b1, 8, .inl sk))] sz) := by
  refine Met.ofW (cc := cX1_domain) (maxL := 2) (ret := (some .int)) (by decide) rfl ?_
  intro p e s m args below meth c s₁ B hml hv
  obtain ⟨rfl, hsz, hP, hK, hD0⟩ := hv
  have hx := B.exec
  have hb := B.bytes
  have hr := B.returns
  have hts := atoms_spec (ws := wsX1_domain) B.pre
  have hown : s.vm.findClass RX1 = some m.cls := findClass_of_methodNamed B.named
  have hlocks := B.notSynchronized
  subst hsz
  have hD := hD0.self (sz := s.heap.size)
  generalize hAe : va_A [(k0, .inr (1, [.int mp, .int mq, .int mo, .int hc, .long ms9, .int kp, .int kq, .int kn, .int pp, .int qq, .int gg, .ref k1, .int th])), (k1, .inl (b1, 8, .inl sk))] s.heap.size = A at hD ⊢
  have hA : ∀ q : Nat, s.heap.size ≤ q → A q := fun q h => by rw [← hAe]; exact Or.inr h
  have hS : va_S A s.heap s.heap [] := va_S.rf
  have hl := lv_entry ([.ref k0, .int x]) (n := 2) (Nat.le_of_ble_eq_true rfl)
  rw [lg_entry_eq]
  generalize (lg_sl ([.ref k0, .int x]) ++ List.replicate (2 - (lg_sl ([.ref k0, .int x])).length) Slot.unset).toArray = ls at hl ⊢
  have hl : lv_has ls 2 [(0, .ref k0), (1, .int x)] := hl
  refine lv_aload_n hx hb dX1_domain_0 rfl (lv_at hl 0 rfl) ?_
  refine lv_iconst (v := 0) hx hb dX1_domain_1 (by decide) ?_
  refine va_put (D := (dC, dI)) (ci := 1) (v := .int 0) (ty := .int) (C := RX1) (T := TX1) (N := 13) hx hb hts (by decide +kernel) tyX1 tyX1_ok nmX1 hown hK hP hD hS 0 rfl rfl 12 (by decide) (hts (.fieldLink RX1 13 "DomainKeysModel" "thrown" "I") (by decide +kernel)) (fun _ h9 => h9) rfl (by decide +kernel) rfl rfl (Nat.le_of_ble_eq_true rfl) dX1_domain_2 (fun H locs hP hD hS => ?_)
  have hP : va_P (dC, dI) vwCl [(k0, .inr (1, [.int mp, .int mq, .int mo, .int hc, .long ms9, .int kp, .int kq, .int kn, .int pp, .int qq, .int gg, .ref k1, .int 0])), (k1, .inl (b1, 8, .inl sk))] H := hP
  have hD : va_D A [(k0, .inr (1, [.int mp, .int mq, .int mo, .int hc, .long ms9, .int kp, .int kq, .int kn, .int pp, .int qq, .int gg, .ref k1, .int 0])), (k1, .inl (b1, 8, .inl sk))] := hD
  refine lv_iload_n hx hb dX1_domain_5 rfl (lv_at hl 1 rfl) ?_
  refine lv_if_ne (tgt := 16) hx hb dX1_domain_6 (by decide) (fun c_6 => ?_) (fun c_6 => ?_)
  · refine lv_iload_n hx hb dX1_domain_16 rfl (lv_at hl 1 rfl) ?_
    refine lv_iconst (v := 1) hx hb dX1_domain_17 (by decide) ?_
    refine lv_icmp_ne (tgt := 28) hx hb dX1_domain_18 (by decide) (fun c_18 => ?_) (fun c_18 => ?_)
    · refine lv_iload_n hx hb dX1_domain_28 rfl (lv_at hl 1 rfl) ?_
      refine lv_iconst (v := 2) hx hb dX1_domain_29 (by decide) ?_
      refine lv_icmp_ne (tgt := 40) hx hb dX1_domain_30 (by decide) (fun c_30 => ?_) (fun c_30 => ?_)
      · refine lv_iconst (v := 0) hx hb dX1_domain_40 (by decide) ?_
        exact W.iret (v := 0) hx hb hr (fun t ht hW => ⟨⟨0, (mp, mq, mo, hc, ms9, kp, kq, kn, pp, qq, gg, 0, sk), rfl, ⟨rfl, by rw [dk_fdom, if_neg c_6, if_neg c_18, if_neg c_30]⟩, by rw [ht]; exact hP, va_K.moved hW.alike hK, hD⟩, hS.F ht⟩) hS.2.2 dX1_domain_41
      · refine lv_aload_n hx hb dX1_domain_33 rfl (lv_at hl 0 rfl) ?_
        refine va_get (D := (dC, dI)) (ci := 1) (v := .int gg) (C := RX1) (T := TX1) (N := 13) hx hb hts (by decide +kernel) hown hK hP 0 rfl rfl 10 (by decide) (hts (.fieldLink RX1 79 "DomainKeysModel" "g" "I") (by decide +kernel)) (fun _ h9 => h9) rfl dX1_domain_34 ?_
        refine lv_goto (tgt := 41) hx hb dX1_domain_37 (by decide) ?_
        exact W.iret (v := gg) hx hb hr (fun t ht hW => ⟨⟨gg, (mp, mq, mo, hc, ms9, kp, kq, kn, pp, qq, gg, 0, sk), rfl, ⟨rfl, by rw [dk_fdom, if_neg c_6, if_neg c_18, if_pos c_30]⟩, by rw [ht]; exact hP, va_K.moved hW.alike hK, hD⟩, hS.F ht⟩) hS.2.2 dX1_domain_41
    · refine lv_aload_n hx hb dX1_domain_21 rfl (lv_at hl 0 rfl) ?_
      refine va_get (D := (dC, dI)) (ci := 1) (v := .int qq) (C := RX1) (T := TX1) (N := 13) hx hb hts (by decide +kernel) hown hK hP 0 rfl rfl 9 (by decide) (hts (.fieldLink RX1 76 "DomainKeysModel" "q" "I") (by decide +kernel)) (fun _ h9 => h9) rfl dX1_domain_22 ?_
      refine lv_goto (tgt := 41) hx hb dX1_domain_25 (by decide) ?_
      exact W.iret (v := qq) hx hb hr (fun t ht hW => ⟨⟨qq, (mp, mq, mo, hc, ms9, kp, kq, kn, pp, qq, gg, 0, sk), rfl, ⟨rfl, by rw [dk_fdom, if_neg c_6, if_pos c_18]⟩, by rw [ht]; exact hP, va_K.moved hW.alike hK, hD⟩, hS.F ht⟩) hS.2.2 dX1_domain_41
  · refine lv_aload_n hx hb dX1_domain_9 rfl (lv_at hl 0 rfl) ?_
    refine va_get (D := (dC, dI)) (ci := 1) (v := .int pp) (C := RX1) (T := TX1) (N := 13) hx hb hts (by decide +kernel) hown hK hP 0 rfl rfl 8 (by decide) (hts (.fieldLink RX1 73 "DomainKeysModel" "p" "I") (by decide +kernel)) (fun _ h9 => h9) rfl dX1_domain_10 ?_
    refine lv_goto (tgt := 41) hx hb dX1_domain_13 (by decide) ?_
    exact W.iret (v := pp) hx hb hr (fun t ht hW => ⟨⟨pp, (mp, mq, mo, hc, ms9, kp, kq, kn, pp, qq, gg, 0, sk), rfl, ⟨rfl, by rw [dk_fdom, if_pos c_6]⟩, by rw [ht]; exact hP, va_K.moved hW.alike hK, hD⟩, hS.F ht⟩) hS.2.2 dX1_domain_41

set_option maxHeartbeats 4000000 in
set_option maxRecDepth 100000 in
theorem dk_m_digest (l : Launch) (dC : Nat → ClassId) (dI : Nat → Nat → Nat) (k0 k1 : Nat) (b1 : ClassId) (mp mq mo hc : Int32) (ms9 : Int64) (kp kq kn pp qq gg th : Int32) (sk : Nat → Int32) (a : Int64) (sz : Nat) : Met l yX1_digest wsX1_digest ({ frames := 2, cells := 0, slots := 0, locals := 46 }) (va_Pc [.ref k0, .long a] (fun U => U.heap.size = sz ∧ va_P (dC, dI) vwCl [(k0, .inr (1, [.int mp, .int mq, .int mo, .int hc, .long ms9, .int kp, .int kq, .int kn, .int pp, .int qq, .int gg, .ref k1, .int th])), (k1, .inl (b1, 8, .inl sk))] U.heap ∧ va_K (dC, dI) vwCl [(b1, .int)] U ∧ va_D (fun _ => True) [(k0, .inr (1, [.int mp, .int mq, .int mo, .int hc, .long ms9, .int kp, .int kq, .int kn, .int pp, .int qq, .int gg, .ref k1, .int th])), (k1, .inl (b1, 8, .inl sk))])) (va_Qi (fun (r9 : Int32) (u9 : dk_T) => u9 = (mp, mq, mo, hc, ms9, kp, kq, kn, pp, qq, gg, 0, sk) ∧ r9 = nI (dk_z a)) (dk_C dC dI (va_A [(k0, .inr (1, [.int mp, .int mq, .int mo, .int hc, .long ms9, .int kp, .int kq, .int kn, .int pp, .int qq, .int gg, .ref k1, .int th])), (k1, .inl (b1, 8, .inl sk))] sz) k0 k1 b1) (va_A [(k0, .inr (1, [.int mp, .int mq, .int mo, .int hc, .long ms9, .int kp, .int kq, .int kn, .int pp, .int qq, .int gg, .ref k1, .int th])), (k1, .inl (b1, 8, .inl sk))] sz)) 0 0 (va_A [(k0, .inr (1, [.int mp, .int mq, .int mo, .int hc, .long ms9, .int kp, .int kq, .int kn, .int pp, .int qq, .int gg, .ref k1, .int th])), (k1, .inl (b1, 8, .inl sk))] sz) := by
  refine Met.ofW (cc := cX1_digest) (maxL := 3) (ret := (some .int)) (by decide) rfl ?_
  intro p e s m args below meth c s₁ B hml hv
  obtain ⟨rfl, hsz, hP, hK, hD0⟩ := hv
  have hx := B.exec
  have hb := B.bytes
  have hr := B.returns
  have hts := atoms_spec (ws := wsX1_digest) B.pre
  have hown : s.vm.findClass RX1 = some m.cls := findClass_of_methodNamed B.named
  have hlocks := B.notSynchronized
  subst hsz
  have hD := hD0.self (sz := s.heap.size)
  generalize hAe : va_A [(k0, .inr (1, [.int mp, .int mq, .int mo, .int hc, .long ms9, .int kp, .int kq, .int kn, .int pp, .int qq, .int gg, .ref k1, .int th])), (k1, .inl (b1, 8, .inl sk))] s.heap.size = A at hD ⊢
  have hA : ∀ q : Nat, s.heap.size ≤ q → A q := fun q h => by rw [← hAe]; exact Or.inr h
  have hS : va_S A s.heap s.heap [] := va_S.rf
  have hl := lv_entry ([.ref k0, .long a]) (n := 3) (Nat.le_of_ble_eq_true rfl)
  rw [lg_entry_eq]
  generalize (lg_sl ([.ref k0, .long a]) ++ List.replicate (3 - (lg_sl ([.ref k0, .long a])).length) Slot.unset).toArray = ls at hl ⊢
  have hl : lv_has ls 3 [(0, .ref k0), (1, .long a)] := hl
  refine lv_aload_n hx hb dX1_digest_0 rfl (lv_at hl 0 rfl) ?_
  refine lv_iconst (v := 0) hx hb dX1_digest_1 (by decide) ?_
  refine va_put (D := (dC, dI)) (ci := 1) (v := .int 0) (ty := .int) (C := RX1) (T := TX1) (N := 13) hx hb hts (by decide +kernel) tyX1 tyX1_ok nmX1 hown hK hP hD hS 0 rfl rfl 12 (by decide) (hts (.fieldLink RX1 13 "DomainKeysModel" "thrown" "I") (by decide +kernel)) (fun _ h9 => h9) rfl (by decide +kernel) rfl rfl (Nat.le_of_ble_eq_true rfl) dX1_digest_2 (fun H locs hP hD hS => ?_)
  have hP : va_P (dC, dI) vwCl [(k0, .inr (1, [.int mp, .int mq, .int mo, .int hc, .long ms9, .int kp, .int kq, .int kn, .int pp, .int qq, .int gg, .ref k1, .int 0])), (k1, .inl (b1, 8, .inl sk))] H := hP
  have hD : va_D A [(k0, .inr (1, [.int mp, .int mq, .int mo, .int hc, .long ms9, .int kp, .int kq, .int kn, .int pp, .int qq, .int gg, .ref k1, .int 0])), (k1, .inl (b1, 8, .inl sk))] := hD
  refine lv_lload_n hx hb dX1_digest_5 rfl (lv_at hl 1 rfl) ?_
  refine vp_callSl (W.runS (As := [.long a]) (rest := []) ⟨hx, hb, hml, hown, hts⟩ (dk_m_digestOf l a) (va_cwS 1 hts gX1_digest_X1_digestOf rfl rfl rfl (by decide +kernel) ⟨Nat.le_of_ble_eq_true rfl, Nat.le_of_ble_eq_true rfl⟩) ⟨fun _ _ _ _ q9 => q9, fun U hU hW => ⟨rfl, trivial⟩⟩ rfl rfl hl.1 rfl (lv_room (Nat.le_of_ble_eq_true rfl)) dX1_digest_6 ⟨Nat.le_of_ble_eq_true rfl, Nat.le_of_ble_eq_true rfl⟩) (fun r_6 hr_6 => ?_)
  subst hr_6
  refine lv_l2i hx hb dX1_digest_9 rfl ?_
  refine lv_topi (fun v_9 ev_9 => ?_)
  have ev_9 : v_9 = nI (dk_z a) := ev_9.trans (lN_i _)
  subst ev_9
  exact W.iret (v := (nI (dk_z a))) hx hb hr (fun t ht hW => ⟨⟨nI (dk_z a), (mp, mq, mo, hc, ms9, kp, kq, kn, pp, qq, gg, 0, sk), rfl, ⟨rfl, rfl⟩, by rw [ht]; exact hP, va_K.moved hW.alike hK, hD⟩, hS.F ht⟩) hS.2.2 dX1_digest_10

set_option maxHeartbeats 4000000 in
set_option maxRecDepth 100000 in
theorem dk_m_valid (l : Launch) (dC : Nat → ClassId) (dI : Nat → Nat → Nat) (k0 k1 : Nat) (b1 : ClassId) (mp mq mo hc : Int32) (ms9 : Int64) (kp kq kn pp qq gg th : Int32) (sk : Nat → Int32) (x y : Int32) (sd : Int64) (n : Int32) (sz : Nat) : Met l yX1_valid wsX1_valid ({ frames := 2, cells := 0, slots := 0, locals := 54 }) (va_Pc [.ref k0, .int x, .int y, .long sd, .int n] (fun U => U.heap.size = sz ∧ va_P (dC, dI) vwCl [(k0, .inr (1, [.int mp, .int mq, .int mo, .int hc, .long ms9, .int kp, .int kq, .int kn, .int pp, .int qq, .int gg, .ref k1, .int th])), (k1, .inl (b1, 8, .inl sk))] U.heap ∧ va_K (dC, dI) vwCl [(b1, .int)] U ∧ va_D (fun _ => True) [(k0, .inr (1, [.int mp, .int mq, .int mo, .int hc, .long ms9, .int kp, .int kq, .int kn, .int pp, .int qq, .int gg, .ref k1, .int th])), (k1, .inl (b1, 8, .inl sk))])) (va_Qi (fun (r9 : Int32) (u9 : dk_T) => ((r9 = 1 ∧ dk_val x y sd n) ∨ (r9 = 0 ∧ ¬ dk_val x y sd n)) ∧ ∃ mp2 r2 : Int32, u9 = (mp2, nI (dk_q sd), r2, hc, ms9, kp, kq, kn, pp, qq, gg, 0, sk)) (dk_C dC dI (va_A [(k0, .inr (1, [.int mp, .int mq, .int mo, .int hc, .long ms9, .int kp, .int kq, .int kn, .int pp, .int qq, .int gg, .ref k1, .int th])), (k1, .inl (b1, 8, .inl sk))] sz) k0 k1 b1) (va_A [(k0, .inr (1, [.int mp, .int mq, .int mo, .int hc, .long ms9, .int kp, .int kq, .int kn, .int pp, .int qq, .int gg, .ref k1, .int th])), (k1, .inl (b1, 8, .inl sk))] sz)) 0 0 (va_A [(k0, .inr (1, [.int mp, .int mq, .int mo, .int hc, .long ms9, .int kp, .int kq, .int kn, .int pp, .int qq, .int gg, .ref k1, .int th])), (k1, .inl (b1, 8, .inl sk))] sz) := by
  refine Met.ofW (cc := cX1_valid) (maxL := 6) (ret := (some .boolean)) (by decide) rfl ?_
  intro p e s m args below meth c s₁ B hml hv
  obtain ⟨rfl, hsz, hP, hK, hD0⟩ := hv
  have hx := B.exec
  have hb := B.bytes
  have hr := B.returns
  have hts := atoms_spec (ws := wsX1_valid) B.pre
  have hown : s.vm.findClass RX1 = some m.cls := findClass_of_methodNamed B.named
  have hlocks := B.notSynchronized
  subst hsz
  have hD := hD0.self (sz := s.heap.size)
  generalize hAe : va_A [(k0, .inr (1, [.int mp, .int mq, .int mo, .int hc, .long ms9, .int kp, .int kq, .int kn, .int pp, .int qq, .int gg, .ref k1, .int th])), (k1, .inl (b1, 8, .inl sk))] s.heap.size = A at hD ⊢
  have hA : ∀ q : Nat, s.heap.size ≤ q → A q := fun q h => by rw [← hAe]; exact Or.inr h
  have hS : va_S A s.heap s.heap [] := va_S.rf
  have hl := lv_entry ([.ref k0, .int x, .int y, .long sd, .int n]) (n := 6) (Nat.le_of_ble_eq_true rfl)
  rw [lg_entry_eq]
  generalize (lg_sl ([.ref k0, .int x, .int y, .long sd, .int n]) ++ List.replicate (6 - (lg_sl ([.ref k0, .int x, .int y, .long sd, .int n])).length) Slot.unset).toArray = ls at hl ⊢
  have hl : lv_has ls 6 [(0, .ref k0), (1, .int x), (2, .int y), (3, .long sd), (5, .int n)] := hl
  refine lv_aload_n hx hb dX1_valid_0 rfl (lv_at hl 0 rfl) ?_
  refine lv_iconst (v := 0) hx hb dX1_valid_1 (by decide) ?_
  refine va_put (D := (dC, dI)) (ci := 1) (v := .int 0) (ty := .int) (C := RX1) (T := TX1) (N := 13) hx hb hts (by decide +kernel) tyX1 tyX1_ok nmX1 hown hK hP hD hS 0 rfl rfl 12 (by decide) (hts (.fieldLink RX1 13 "DomainKeysModel" "thrown" "I") (by decide +kernel)) (fun _ h9 => h9) rfl (by decide +kernel) rfl rfl (Nat.le_of_ble_eq_true rfl) dX1_valid_2 (fun H locs hP hD hS => ?_)
  have hP : va_P (dC, dI) vwCl [(k0, .inr (1, [.int mp, .int mq, .int mo, .int hc, .long ms9, .int kp, .int kq, .int kn, .int pp, .int qq, .int gg, .ref k1, .int 0])), (k1, .inl (b1, 8, .inl sk))] H := hP
  have hD : va_D A [(k0, .inr (1, [.int mp, .int mq, .int mo, .int hc, .long ms9, .int kp, .int kq, .int kn, .int pp, .int qq, .int gg, .ref k1, .int 0])), (k1, .inl (b1, 8, .inl sk))] := hD
  refine lv_aload_n hx hb dX1_valid_5 rfl (lv_at hl 0 rfl) ?_
  refine lv_lload_n hx hb dX1_valid_6 rfl (lv_at hl 3 rfl) ?_
  have hPc := hP.sub (ws' := [(k0, .inr (1, [.int mp, .int mq, .int mo, .int hc, .long ms9, .int kp, .int kq, .int kn, .int pp, .int qq, .int gg, .ref k1, .int 0])), (k1, .inl (b1, 8, .inl sk))]) [0, 1] rfl
  have hDc := hD.sub (ws' := [(k0, .inr (1, [.int mp, .int mq, .int mo, .int hc, .long ms9, .int kp, .int kq, .int kn, .int pp, .int qq, .int gg, .ref k1, .int 0])), (k1, .inl (b1, 8, .inl sk))]) [0, 1] (by decide) rfl
  have hKc := hK.sub (tys' := [(b1, .int)]) [0] rfl
  have hFc := va_free (wc := [(k0, .inr (1, [.int mp, .int mq, .int mo, .int hc, .long ms9, .int kp, .int kq, .int kn, .int pp, .int qq, .int gg, .ref k1, .int 0])), (k1, .inl (b1, 8, .inl sk))]) hD hS hA [0, 1] rfl
  refine va_callv (va_runV (As := [.long sd]) (rest := []) ⟨hx, hb, hml, hown, hts⟩ (dk_m_make l dC dI k0 k1 b1 mp mq mo hc ms9 kp kq kn pp qq gg 0 sk sd _) (cwV 1 hts gX1_valid_X1_make rfl rfl rfl (by decide +kernel) ⟨Nat.le_of_ble_eq_true rfl, Nat.le_of_ble_eq_true rfl⟩) ⟨fun a U g mk q => by obtain ⟨q0, q1, qP, qK, qD⟩ := q; exact ⟨q0, q1, qP, va_K.moved (u := U) (U := U.calling g mk a) (Vm.Alike.refl U.vm) qK, qD⟩, va_recv hKc hPc (ci := 1) (q0 := 0) rfl rfl, fun U hU hW => ⟨rfl, by rw [hU], by rw [hU]; exact hPc, va_K.moved hW.alike hKc, hDc.weaken (fun _ _ _ _ => trivial)⟩⟩ rfl rfl hl.1 rfl (lv_room (Nat.le_of_ble_eq_true rfl)) dX1_valid_7 ⟨Nat.le_of_ble_eq_true rfl, Nat.le_of_ble_eq_true rfl⟩) hS (fun q _ h => hFc q h) hFc (fun u t H1 locs ht hvm hw hB hz1 hk1 hS => ?_)
  obtain ⟨mp2, r2, ⟨hmk, hmp⟩, rfl⟩ := hw
  obtain ⟨hP1, hK1, hD1⟩ := hB
  rw [ht] at hP1
  have hK1 := va_K.moved hvm.symm hK1
  obtain ⟨hP, hD⟩ := va_join (wr := []) (w1 := [(k0, .inr (1, [.int mp2, .int (nI (dk_q sd)), .int r2, .int hc, .long ms9, .int kp, .int kq, .int kn, .int pp, .int qq, .int gg, .ref k1, .int 0])), (k1, .inl (b1, 8, .inl sk))]) hP hD [0, 1] [] rfl rfl (by decide) (by decide) hk1 hFc hP1 hD1
  have hK := (hK.sub (tys' := []) [] rfl).app hK1
  generalize H1 = H at hP hS ⊢
  have hP : va_P (dC, dI) vwCl [(k0, .inr (1, [.int mp2, .int (nI (dk_q sd)), .int r2, .int hc, .long ms9, .int kp, .int kq, .int kn, .int pp, .int qq, .int gg, .ref k1, .int 0])), (k1, .inl (b1, 8, .inl sk))] H := hP
  have hD : va_D A [(k0, .inr (1, [.int mp2, .int (nI (dk_q sd)), .int r2, .int hc, .long ms9, .int kp, .int kq, .int kn, .int pp, .int qq, .int gg, .ref k1, .int 0])), (k1, .inl (b1, 8, .inl sk))] := hD
  have hK : va_K (dC, dI) vwCl [(b1, .int)] s := hK
  refine lv_aload_n hx hb dX1_valid_10 rfl (lv_at hl 0 rfl) ?_
  refine va_get (D := (dC, dI)) (ci := 1) (v := .int r2) (C := RX1) (T := TX1) (N := 13) hx hb hts (by decide +kernel) hown hK hP 0 rfl rfl 2 (by decide) (hts (.fieldLink RX1 38 "DomainKeysModel" "outcome" "I") (by decide +kernel)) (fun _ h9 => h9) rfl dX1_valid_11 ?_
  refine lv_if_lt (tgt := 46) hx hb dX1_valid_14 (by decide) (fun c_14 => ?_) (fun c_14 => ?_)
  · have hno : ¬ dk_val x y sd n := fun ⟨d0, d, d1, d2, d3, d4, d5, d6⟩ => by
      have hr2 : r2 = nI d := dk_Mk_one hmk (Or.inr (Or.inl ⟨d0, d, d1, d2, d3, rfl⟩))
      rw [hr2] at c_14
      exact nI_pos (by omega) c_14
    refine lv_iconst (v := 0) hx hb dX1_valid_46 (by decide) ?_
    exact W.zret (v := 0) (ty := .boolean) hx hb hr rfl (fun t ht hW => ⟨⟨0, (mp2, nI (dk_q sd), r2, hc, ms9, kp, kq, kn, pp, qq, gg, 0, sk), rfl, ⟨Or.inr ⟨rfl, hno⟩, mp2, r2, rfl⟩, by rw [ht]; exact hP, va_K.moved hW.alike hK, hD⟩, hS.F ht⟩) hS.2.2 dX1_valid_47
  · refine lv_aload_n hx hb dX1_valid_17 rfl (lv_at hl 0 rfl) ?_
    refine va_get (D := (dC, dI)) (ci := 1) (v := .int r2) (C := RX1) (T := TX1) (N := 13) hx hb hts (by decide +kernel) hown hK hP 0 rfl rfl 2 (by decide) (hts (.fieldLink RX1 38 "DomainKeysModel" "outcome" "I") (by decide +kernel)) (fun _ h9 => h9) rfl dX1_valid_18 ?_
    refine lv_iload hx hb dX1_valid_21 (lv_at hl 4 rfl) ?_
    refine lv_icmp_ne (tgt := 46) hx hb dX1_valid_23 (by decide) (fun c_23 => ?_) (fun c_23 => ?_)
    · have hno : ¬ dk_val x y sd n := fun ⟨d0, d, d1, d2, d3, d4, d5, d6⟩ => by
        have hr2 : r2 = nI d := dk_Mk_one hmk (Or.inr (Or.inl ⟨d0, d, d1, d2, d3, rfl⟩))
        exact c_23 (hr2.trans d4.symm)
      refine lv_iconst (v := 0) hx hb dX1_valid_46 (by decide) ?_
      exact W.zret (v := 0) (ty := .boolean) hx hb hr rfl (fun t ht hW => ⟨⟨0, (mp2, nI (dk_q sd), r2, hc, ms9, kp, kq, kn, pp, qq, gg, 0, sk), rfl, ⟨Or.inr ⟨rfl, hno⟩, mp2, r2, rfl⟩, by rw [ht]; exact hP, va_K.moved hW.alike hK, hD⟩, hS.F ht⟩) hS.2.2 dX1_valid_47
    · refine lv_aload_n hx hb dX1_valid_26 rfl (lv_at hl 0 rfl) ?_
      refine va_get (D := (dC, dI)) (ci := 1) (v := .int mp2) (C := RX1) (T := TX1) (N := 13) hx hb hts (by decide +kernel) hown hK hP 0 rfl rfl 0 (by decide) (hts (.fieldLink RX1 43 "DomainKeysModel" "madeP" "I") (by decide +kernel)) (fun _ h9 => h9) rfl dX1_valid_27 ?_
      refine lv_iload_n hx hb dX1_valid_30 rfl (lv_at hl 1 rfl) ?_
      refine lv_icmp_ne (tgt := 46) hx hb dX1_valid_31 (by decide) (fun c_31 => ?_) (fun c_31 => ?_)
      · have hno : ¬ dk_val x y sd n := fun ⟨d0, d, d1, d2, d3, d4, d5, d6⟩ => by
          have hr2 : r2 = nI d := dk_Mk_one hmk (Or.inr (Or.inl ⟨d0, d, d1, d2, d3, rfl⟩))
          exact c_31 ((hmp d d1 hr2).trans d6.symm)
        refine lv_iconst (v := 0) hx hb dX1_valid_46 (by decide) ?_
        exact W.zret (v := 0) (ty := .boolean) hx hb hr rfl (fun t ht hW => ⟨⟨0, (mp2, nI (dk_q sd), r2, hc, ms9, kp, kq, kn, pp, qq, gg, 0, sk), rfl, ⟨Or.inr ⟨rfl, hno⟩, mp2, r2, rfl⟩, by rw [ht]; exact hP, va_K.moved hW.alike hK, hD⟩, hS.F ht⟩) hS.2.2 dX1_valid_47
      · refine lv_aload_n hx hb dX1_valid_34 rfl (lv_at hl 0 rfl) ?_
        refine va_get (D := (dC, dI)) (ci := 1) (v := .int (nI (dk_q sd))) (C := RX1) (T := TX1) (N := 13) hx hb hts (by decide +kernel) hown hK hP 0 rfl rfl 1 (by decide) (hts (.fieldLink RX1 31 "DomainKeysModel" "madeQ" "I") (by decide +kernel)) (fun _ h9 => h9) rfl dX1_valid_35 ?_
        refine lv_iload_n hx hb dX1_valid_38 rfl (lv_at hl 2 rfl) ?_
        refine lv_icmp_ne (tgt := 46) hx hb dX1_valid_39 (by decide) (fun c_39 => ?_) (fun c_39 => ?_)
        · have hno : ¬ dk_val x y sd n := fun ⟨d0, d, d1, d2, d3, d4, d5, d6⟩ => by
            have hr2 : r2 = nI d := dk_Mk_one hmk (Or.inr (Or.inl ⟨d0, d, d1, d2, d3, rfl⟩))
            exact c_39 d5.symm
          refine lv_iconst (v := 0) hx hb dX1_valid_46 (by decide) ?_
          exact W.zret (v := 0) (ty := .boolean) hx hb hr rfl (fun t ht hW => ⟨⟨0, (mp2, nI (dk_q sd), r2, hc, ms9, kp, kq, kn, pp, qq, gg, 0, sk), rfl, ⟨Or.inr ⟨rfl, hno⟩, mp2, r2, rfl⟩, by rw [ht]; exact hP, va_K.moved hW.alike hK, hD⟩, hS.F ht⟩) hS.2.2 dX1_valid_47
        · obtain ⟨n9, hn9, hok, hfi, hpq, hr2⟩ : ∃ n9 : Nat, n9 < 64 ∧ dk_ok sd n9 ∧ (∀ j, j < n9 → ¬ dk_ok sd j) ∧ dk_pr (dk_q sd) ∧ r2 = nI n9 := by
            rcases hmk with ⟨-, q⟩ | ⟨q1, n9, q2, q3, q4, q⟩ | ⟨-, -, q⟩
            · exact absurd (by rw [q]; decide) c_14
            · exact ⟨n9, q2, q3, q4, q1, q⟩
            · exact absurd (by rw [q]; decide) c_14
          have hyes : dk_val x y sd n := ⟨hpq, n9, hn9, hok, hfi, c_23.symm.trans hr2, c_39.symm, c_31.symm.trans (hmp n9 hn9 hr2)⟩
          refine lv_iconst (v := 1) hx hb dX1_valid_42 (by decide) ?_
          refine lv_goto (tgt := 47) hx hb dX1_valid_43 (by decide) ?_
          exact W.zret (v := 1) (ty := .boolean) hx hb hr rfl (fun t ht hW => ⟨⟨1, (mp2, nI (dk_q sd), r2, hc, ms9, kp, kq, kn, pp, qq, gg, 0, sk), rfl, ⟨Or.inl ⟨rfl, hyes⟩, mp2, r2, rfl⟩, by rw [ht]; exact hP, va_K.moved hW.alike hK, hD⟩, hS.F ht⟩) hS.2.2 dX1_valid_47
end
section
set_option maxHeartbeats 4000000 in
set_option maxRecDepth 100000 in
theorem dk_mgen_loop {p : Program} {l : Launch} {e : Env} {s : State} {m : MethodId} {args : Array Value} {below : List Frame} {meth : Method} {c : Code} {H : Heap} {locs : List Loc} {Q : State → Prop} (dC : Nat → ClassId) (dI : Nat → Nat → Nat) (k0 k1 : Nat) (b1 : ClassId) (mp mq mo hc : Int32) (ms9 : Int64) (kp kq kn pp qq gg th : Int32) (sk : Nat → Int32) (P Q9 ix : Nat) (hP0 : 2 ≤ P) (hP9 : P < 2147483648) (hQ0 : 1 ≤ Q9) (hQ9 : Q9 < 2147483648) (hix : ix < 256) (hx : p.tables.exec = Jvm.exec) (hb : c.code = cX1_generator) (hml : c.maxLocals = 9) (hown : s.vm.findClass RX1 = some m.cls) (hts : ∀ w ∈ wsX1_generator, w.before args s = true) (hP : va_P (dC, dI) vwCl [(k0, .inr (1, [.int mp, .int mq, .int mo, .int hc, .long ms9, .int (nI P), .int (nI Q9), .int kn, .int pp, .int qq, .int gg, .ref k1, .int 0])), (k1, .inl (b1, 8, .inl sk))] H) (hK : va_K (dC, dI) vwCl [(b1, .int)] s) (kr : ∀ (pc : Nat) (r : Int32) (ls : Array Slot), (pc = 115 ∨ pc = 123) → dk_Gn ms9 ix P Q9 r → W p l e (headSpec wsX1_generator ({ frames := 1, cells := 0, slots := 0, locals := 30 })).room s m args below meth c H locs 0 0 Q (F0 m pc ls [.int r])) :
    ∀ (n k9 : Nat) (ls : Array Slot), 102 ≤ k9 + n → 1 ≤ k9 → k9 ≤ 101 → (∀ j, 1 ≤ j → j < k9 → ¬ 1 < dk_g ms9 ix P Q9 j) → lv_has ls 9 [(0, .ref k0), (2, .long (dk_H ms9 (lN (100 + ix)))), (4, .int (nI k9))] → W p l e (headSpec wsX1_generator ({ frames := 1, cells := 0, slots := 0, locals := 30 })).room s m args below meth c H locs 0 0 Q (F0 m 57 ls []) := by
  intro n
  induction n with
  | zero =>
    intro k9 ls g1 g2 g3
    exact absurd g1 (by omega)
  | succ n ih =>
    intro k9 ls g1 g2 g3 g4 hl
    have hg : dk_g ms9 ix P Q9 k9 < P := Nat.mod_lt _ (by omega)
    have hw9 : dk_w ms9 ix P k9 < P := Nat.mod_lt _ (by omega)
    have hcf : (P - 1) / Q9 ≤ P - 1 := Nat.div_le_self _ _
    have hhl := dk_hN_lt (dk_H ms9 (lN (100 + ix))) (lN k9)
    refine lv_iload hx hb dX1_generator_57 (lv_at hl 2 rfl) ?_
    refine lv_bipush (v := 100) hx hb dX1_generator_59 (by decide) ?_
    refine lv_icmp_gt (tgt := 122) hx hb dX1_generator_61 (by decide) (fun c_61 => ?_) (fun c_61 => ?_)
    · have hk9 : 100 < k9 := (nI_ltI (by omega) (by omega)).mp c_61
      refine lv_iconst (v := 1) hx hb dX1_generator_122 (by decide) ?_
      exact kr 123 _ ls (Or.inr rfl) (Or.inr ⟨fun j q1 q2 => g4 j q1 (by omega), rfl⟩)
    · have hk9 : k9 ≤ 100 := by
        rcases Nat.lt_or_ge 100 k9 with q | q
        · exact absurd ((nI_ltI (a := 100) (b := k9) (by omega) (by omega)).mpr q) c_61
        · exact q
      refine lv_lload_n hx hb dX1_generator_64 rfl (lv_at hl 1 rfl) ?_
      refine lv_iload hx hb dX1_generator_65 (lv_at hl 2 rfl) ?_
      refine lv_i2l hx hb dX1_generator_67 rfl ?_
      refine lv_topl (fun v_67 ev_67 => ?_)
      have ev_67 : v_67 = lN k9 := ev_67.trans (nI_l (by omega))
      subst ev_67
      refine vp_callSl (W.runS (As := [.long (dk_H ms9 (lN (100 + ix))), .long (lN k9)]) (rest := []) ⟨hx, hb, hml, hown, hts⟩ (dk_m_h l (dk_H ms9 (lN (100 + ix))) (lN k9)) (va_cwS 2 hts gX1_generator_X1_h rfl rfl rfl (by decide +kernel) ⟨Nat.le_of_ble_eq_true rfl, Nat.le_of_ble_eq_true rfl⟩) ⟨fun _ _ _ _ q9 => q9, fun U hU hW => ⟨rfl, trivial⟩⟩ rfl rfl hl.1 rfl (lv_room (Nat.le_of_ble_eq_true rfl)) dX1_generator_68 ⟨Nat.le_of_ble_eq_true rfl, Nat.le_of_ble_eq_true rfl⟩) (fun r_68 hr_68 => ?_)
      subst hr_68
      refine lv_iconst (v := 1) hx hb dX1_generator_71 (by decide) ?_
      refine lv_lushr hx hb dX1_generator_72 rfl ?_
      refine lv_topl (fun v_72 ev_72 => ?_)
      have ev_72 : v_72 = lN (dk_hN (dk_H ms9 (lN (100 + ix))) (lN k9) / 2) := ev_72.trans (dk_hus _ _ (k := 1) (by decide))
      subst ev_72
      refine lv_lstore (lv' := [(5, .long (lN (dk_hN (dk_H ms9 (lN (100 + ix))) (lN k9) / 2))), (0, .ref k0), (2, .long (dk_H ms9 (lN (100 + ix)))), (4, .int (nI k9))]) hx hb dX1_generator_73 hl (by decide) rfl (fun ls hl => ?_)
      refine lv_lload hx hb dX1_generator_75 (lv_at hl 0 rfl) ?_
      refine lv_aload_n hx hb dX1_generator_77 rfl (lv_at hl 1 rfl) ?_
      refine va_get (D := (dC, dI)) (ci := 1) (v := .int (nI P)) (C := RX1) (T := TX1) (N := 13) hx hb hts (by decide +kernel) hown hK hP 0 rfl rfl 5 (by decide) (hts (.fieldLink RX1 58 "DomainKeysModel" "candidateP" "I") (by decide +kernel)) (fun _ h9 => h9) rfl dX1_generator_78 ?_
      refine lv_i2l hx hb dX1_generator_81 rfl ?_
      refine lv_topl (fun v_81 ev_81 => ?_)
      have ev_81 : v_81 = lN P := ev_81.trans (nI_l (by omega))
      subst ev_81
      refine lv_lrem hx hb dX1_generator_82 (dk_lne (by omega) (by omega)) ?_
      refine lv_topl (fun v_82 ev_82 => ?_)
      have ev_82 : v_82 = lN (dk_w ms9 ix P k9) := ev_82.trans (pk_lRem (by omega) (by omega) (by omega))
      subst ev_82
      refine lv_aload_n hx hb dX1_generator_83 rfl (lv_at hl 1 rfl) ?_
      refine va_get (D := (dC, dI)) (ci := 1) (v := .int (nI P)) (C := RX1) (T := TX1) (N := 13) hx hb hts (by decide +kernel) hown hK hP 0 rfl rfl 5 (by decide) (hts (.fieldLink RX1 58 "DomainKeysModel" "candidateP" "I") (by decide +kernel)) (fun _ h9 => h9) rfl dX1_generator_84 ?_
      refine lv_iconst (v := 1) hx hb dX1_generator_87 (by decide) ?_
      refine lv_isub hx hb dX1_generator_88 ?_
      refine lv_topi (fun v_88 ev_88 => ?_)
      have ev_88 : v_88 = nI (P - 1) := ev_88.trans (pk_sub (b := 1) (by omega))
      subst ev_88
      refine lv_aload_n hx hb dX1_generator_89 rfl (lv_at hl 1 rfl) ?_
      refine va_get (D := (dC, dI)) (ci := 1) (v := .int (nI Q9)) (C := RX1) (T := TX1) (N := 13) hx hb hts (by decide +kernel) hown hK hP 0 rfl rfl 6 (by decide) (hts (.fieldLink RX1 61 "DomainKeysModel" "candidateQ" "I") (by decide +kernel)) (fun _ h9 => h9) rfl dX1_generator_90 ?_
      refine lv_idiv hx hb dX1_generator_93 (nI_ne0 (by omega) (by omega)) ?_
      refine lv_topi (fun v_93 ev_93 => ?_)
      have ev_93 : v_93 = nI ((P - 1) / Q9) := ev_93.trans (pk_div (by omega) (by omega) (by omega))
      subst ev_93
      refine lv_i2l hx hb dX1_generator_94 rfl ?_
      refine lv_topl (fun v_94 ev_94 => ?_)
      have ev_94 : v_94 = lN ((P - 1) / Q9) := ev_94.trans (nI_l (by omega))
      subst ev_94
      refine lv_aload_n hx hb dX1_generator_95 rfl (lv_at hl 1 rfl) ?_
      refine va_get (D := (dC, dI)) (ci := 1) (v := .int (nI P)) (C := RX1) (T := TX1) (N := 13) hx hb hts (by decide +kernel) hown hK hP 0 rfl rfl 5 (by decide) (hts (.fieldLink RX1 58 "DomainKeysModel" "candidateP" "I") (by decide +kernel)) (fun _ h9 => h9) rfl dX1_generator_96 ?_
      refine lv_i2l hx hb dX1_generator_99 rfl ?_
      refine lv_topl (fun v_99 ev_99 => ?_)
      have ev_99 : v_99 = lN P := ev_99.trans (nI_l (by omega))
      subst ev_99
      refine vp_callSl (W.runS (As := [.long (lN (dk_w ms9 ix P k9)), .long (lN ((P - 1) / Q9)), .long (lN P)]) (rest := []) ⟨hx, hb, hml, hown, hts⟩ (dk_m_power l (dk_w ms9 ix P k9) ((P - 1) / Q9) P (by omega) (by omega) hP0 hP9) (va_cwS 3 hts gX1_generator_X1_power rfl rfl rfl (by decide +kernel) ⟨Nat.le_of_ble_eq_true rfl, Nat.le_of_ble_eq_true rfl⟩) ⟨fun _ _ _ _ q9 => q9, fun U hU hW => ⟨rfl, trivial⟩⟩ rfl rfl hl.1 rfl (lv_room (Nat.le_of_ble_eq_true rfl)) dX1_generator_100 ⟨Nat.le_of_ble_eq_true rfl, Nat.le_of_ble_eq_true rfl⟩) (fun r_100 hr_100 => ?_)
      subst hr_100
      refine lv_lstore (lv' := [(7, .long (lN (dk_g ms9 ix P Q9 k9))), (5, .long (lN (dk_hN (dk_H ms9 (lN (100 + ix))) (lN k9) / 2))), (0, .ref k0), (2, .long (dk_H ms9 (lN (100 + ix)))), (4, .int (nI k9))]) hx hb dX1_generator_103 hl (by decide) rfl (fun ls hl => ?_)
      refine lv_lload hx hb dX1_generator_105 (lv_at hl 0 rfl) ?_
      refine lv_lconst (v := 1) hx hb dX1_generator_107 (by decide) ?_
      refine W.lcmp hx hb dX1_generator_108 ?_
      refine lv_if_le (tgt := 116) hx hb dX1_generator_109 (by decide) (fun c_109 => ?_) (fun c_109 => ?_)
      · have hno : ¬ 1 < dk_g ms9 ix P Q9 k9 := fun q => by
          have := (pk_lLE (b := 1) (by omega) (by omega)).mp ((lg_cmp_le _ _).mp c_109)
          omega
        refine lv_iinc (v := (nI (k9 + 1))) (lv' := [(4, .int (nI (k9 + 1))), (7, .long (lN (dk_g ms9 ix P Q9 k9))), (5, .long (lN (dk_hN (dk_H ms9 (lN (100 + ix))) (lN k9) / 2))), (0, .ref k0), (2, .long (dk_H ms9 (lN (100 + ix))))]) hx hb dX1_generator_116 hl (k := 4) rfl (nI_1 k9) (by decide) rfl (fun ls hl => ?_)
        refine lv_goto (tgt := 57) hx hb dX1_generator_119 (by decide) ?_
        exact ih (k9 + 1) ls (by omega) (by omega) (by omega) (fun j q1 q2 => if q : j < k9 then g4 j q1 q else by rw [show j = k9 by omega]; exact hno) (lv_sub hl [3, 4, 0] rfl)
      · have hyes : 1 < dk_g ms9 ix P Q9 k9 := by
          rcases Nat.lt_or_ge 1 (dk_g ms9 ix P Q9 k9) with q | q
          · exact q
          · exact absurd ((lg_cmp_le _ _).mpr ((pk_lLE (a := dk_g ms9 ix P Q9 k9) (b := 1) (by omega) (by omega)).mpr q)) c_109
        refine lv_lload hx hb dX1_generator_112 (lv_at hl 0 rfl) ?_
        refine lv_l2i hx hb dX1_generator_114 rfl ?_
        refine lv_topi (fun v_114 ev_114 => ?_)
        have ev_114 : v_114 = nI (dk_g ms9 ix P Q9 k9) := ev_114.trans (lN_i _)
        subst ev_114
        exact kr 115 _ ls (Or.inl rfl) (Or.inl ⟨k9, g2, hk9, hyes, g4, rfl⟩)

set_option maxHeartbeats 4000000 in
set_option maxRecDepth 100000 in
theorem dk_m_generator (l : Launch) (dC : Nat → ClassId) (dI : Nat → Nat → Nat) (k0 k1 : Nat) (b1 : ClassId) (mp mq mo hc : Int32) (ms9 : Int64) (kp kq kn pp qq gg th : Int32) (sk : Nat → Int32) (x : Int32) (hI : hc = 0 ∨ ∃ c : Nat, c < 64 ∧ dk_ok ms9 c ∧ dk_pr (dk_q ms9) ∧ kp = nI (dk_try ms9 c) ∧ kq = nI (dk_q ms9)) (sz : Nat) : Met l yX1_generator wsX1_generator ({ frames := 1, cells := 0, slots := 0, locals := 30 }) (va_Pc [.ref k0, .int x] (fun U => U.heap.size = sz ∧ va_P (dC, dI) vwCl [(k0, .inr (1, [.int mp, .int mq, .int mo, .int hc, .long ms9, .int kp, .int kq, .int kn, .int pp, .int qq, .int gg, .ref k1, .int th])), (k1, .inl (b1, 8, .inl sk))] U.heap ∧ va_K (dC, dI) vwCl [(b1, .int)] U ∧ va_D (fun _ => True) [(k0, .inr (1, [.int mp, .int mq, .int mo, .int hc, .long ms9, .int kp, .int kq, .int kn, .int pp, .int qq, .int gg, .ref k1, .int th])), (k1, .inl (b1, 8, .inl sk))])) (va_Qi (fun (r9 : Int32) (u9 : dk_T) => (hc = 0 ∧ u9 = (mp, mq, mo, hc, ms9, kp, kq, kn, pp, qq, gg, 1, sk)) ∨ (¬ hc = 0 ∧ ¬ (0 ≤ x ∧ x < 256) ∧ u9 = (mp, mq, mo, hc, ms9, kp, kq, kn, pp, qq, gg, 2, sk)) ∨ (¬ hc = 0 ∧ u9 = (mp, mq, mo, hc, ms9, kp, kq, kn, pp, qq, gg, 0, sk) ∧ ∃ ix : Nat, ix < 256 ∧ x = nI ix ∧ dk_Gn ms9 ix (dk_n kp) (dk_n kq) r9)) (dk_C dC dI (va_A [(k0, .inr (1, [.int mp, .int mq, .int mo, .int hc, .long ms9, .int kp, .int kq, .int kn, .int pp, .int qq, .int gg, .ref k1, .int th])), (k1, .inl (b1, 8, .inl sk))] sz) k0 k1 b1) (va_A [(k0, .inr (1, [.int mp, .int mq, .int mo, .int hc, .long ms9, .int kp, .int kq, .int kn, .int pp, .int qq, .int gg, .ref k1, .int th])), (k1, .inl (b1, 8, .inl sk))] sz)) 0 0 (va_A [(k0, .inr (1, [.int mp, .int mq, .int mo, .int hc, .long ms9, .int kp, .int kq, .int kn, .int pp, .int qq, .int gg, .ref k1, .int th])), (k1, .inl (b1, 8, .inl sk))] sz) := by
  refine Met.ofW (cc := cX1_generator) (maxL := 9) (ret := (some .int)) (by decide) rfl ?_
  intro p e s m args below meth c s₁ B hml hv
  obtain ⟨rfl, hsz, hP, hK, hD0⟩ := hv
  have hx := B.exec
  have hb := B.bytes
  have hr := B.returns
  have hts := atoms_spec (ws := wsX1_generator) B.pre
  have hown : s.vm.findClass RX1 = some m.cls := findClass_of_methodNamed B.named
  have hlocks := B.notSynchronized
  subst hsz
  have hD := hD0.self (sz := s.heap.size)
  generalize hAe : va_A [(k0, .inr (1, [.int mp, .int mq, .int mo, .int hc, .long ms9, .int kp, .int kq, .int kn, .int pp, .int qq, .int gg, .ref k1, .int th])), (k1, .inl (b1, 8, .inl sk))] s.heap.size = A at hD ⊢
  have hA : ∀ q : Nat, s.heap.size ≤ q → A q := fun q h => by rw [← hAe]; exact Or.inr h
  have hS : va_S A s.heap s.heap [] := va_S.rf
  have hl := lv_entry ([.ref k0, .int x]) (n := 9) (Nat.le_of_ble_eq_true rfl)
  rw [lg_entry_eq]
  generalize (lg_sl ([.ref k0, .int x]) ++ List.replicate (9 - (lg_sl ([.ref k0, .int x])).length) Slot.unset).toArray = ls at hl ⊢
  have hl : lv_has ls 9 [(0, .ref k0), (1, .int x)] := hl
  refine lv_aload_n hx hb dX1_generator_0 rfl (lv_at hl 0 rfl) ?_
  refine lv_aload_n hx hb dX1_generator_1 rfl (lv_at hl 0 rfl) ?_
  refine va_get (D := (dC, dI)) (ci := 1) (v := .int hc) (C := RX1) (T := TX1) (N := 13) hx hb hts (by decide +kernel) hown hK hP 0 rfl rfl 3 (by decide) (hts (.fieldLink RX1 50 "DomainKeysModel" "hasCandidate" "Z") (by decide +kernel)) (fun _ h9 => h9) rfl dX1_generator_2 ?_
  refine lv_if_ne (tgt := 12) hx hb dX1_generator_5 (by decide) (fun c_5 => ?_) (fun c_5 => ?_)
  · refine lv_iload_n hx hb dX1_generator_12 rfl (lv_at hl 1 rfl) ?_
    refine lv_if_lt (tgt := 23) hx hb dX1_generator_13 (by decide) (fun c_13 => ?_) (fun c_13 => ?_)
    · have hno : ¬ (0 ≤ x ∧ x < 256) := fun q => dk_not_lt.mpr q.1 c_13
      refine lv_iconst (v := 2) hx hb dX1_generator_23 (by decide) ?_
      refine lv_goto (tgt := 28) hx hb dX1_generator_24 (by decide) ?_
      refine va_put (D := (dC, dI)) (ci := 1) (v := .int 2) (ty := .int) (C := RX1) (T := TX1) (N := 13) hx hb hts (by decide +kernel) tyX1 tyX1_ok nmX1 hown hK hP hD hS 0 rfl rfl 12 (by decide) (hts (.fieldLink RX1 13 "DomainKeysModel" "thrown" "I") (by decide +kernel)) (fun _ h9 => h9) rfl (by decide +kernel) rfl rfl (Nat.le_of_ble_eq_true rfl) dX1_generator_28 (fun H locs hP hD hS => ?_)
      have hP : va_P (dC, dI) vwCl [(k0, .inr (1, [.int mp, .int mq, .int mo, .int hc, .long ms9, .int kp, .int kq, .int kn, .int pp, .int qq, .int gg, .ref k1, .int 2])), (k1, .inl (b1, 8, .inl sk))] H := hP
      have hD : va_D A [(k0, .inr (1, [.int mp, .int mq, .int mo, .int hc, .long ms9, .int kp, .int kq, .int kn, .int pp, .int qq, .int gg, .ref k1, .int 2])), (k1, .inl (b1, 8, .inl sk))] := hD
      refine lv_aload_n hx hb dX1_generator_31 rfl (lv_at hl 0 rfl) ?_
      refine va_get (D := (dC, dI)) (ci := 1) (v := .int 2) (C := RX1) (T := TX1) (N := 13) hx hb hts (by decide +kernel) hown hK hP 0 rfl rfl 12 (by decide) (hts (.fieldLink RX1 13 "DomainKeysModel" "thrown" "I") (by decide +kernel)) (fun _ h9 => h9) rfl dX1_generator_32 ?_
      refine lv_if_eq (tgt := 40) hx hb dX1_generator_35 (by decide) (fun c_35 => ?_) (fun c_35 => ?_)
      · exact absurd c_35 (by decide)
      · refine lv_iconst (v := 0) hx hb dX1_generator_38 (by decide) ?_
        exact W.iret (v := 0) hx hb hr (fun t ht hW => ⟨⟨0, (mp, mq, mo, hc, ms9, kp, kq, kn, pp, qq, gg, 2, sk), rfl, Or.inr (Or.inl ⟨c_5, hno, rfl⟩), by rw [ht]; exact hP, va_K.moved hW.alike hK, hD⟩, hS.F ht⟩) hS.2.2 dX1_generator_39
    · refine lv_iload_n hx hb dX1_generator_16 rfl (lv_at hl 1 rfl) ?_
      refine lv_sipush (v := 255) hx hb dX1_generator_17 (by decide) ?_
      refine lv_icmp_le (tgt := 27) hx hb dX1_generator_20 (by decide) (fun c_20 => ?_) (fun c_20 => ?_)
      · obtain ⟨n9, hn9, hok, hpq, rfl, rfl⟩ := hI.resolve_left c_5
        have htr := dk_try_in ms9 n9
        have hqi := dk_q_in ms9
        obtain ⟨ix, hix0, rfl⟩ := dk_ge0 (dk_not_lt.mp c_13)
        have hix : ix < 256 := by
          have := (nI_leI (b := 255) (by omega) (by omega)).mp c_20
          omega
        refine lv_iconst (v := 0) hx hb dX1_generator_27 (by decide) ?_
        refine va_put (D := (dC, dI)) (ci := 1) (v := .int 0) (ty := .int) (C := RX1) (T := TX1) (N := 13) hx hb hts (by decide +kernel) tyX1 tyX1_ok nmX1 hown hK hP hD hS 0 rfl rfl 12 (by decide) (hts (.fieldLink RX1 13 "DomainKeysModel" "thrown" "I") (by decide +kernel)) (fun _ h9 => h9) rfl (by decide +kernel) rfl rfl (Nat.le_of_ble_eq_true rfl) dX1_generator_28 (fun H locs hP hD hS => ?_)
        have hP : va_P (dC, dI) vwCl [(k0, .inr (1, [.int mp, .int mq, .int mo, .int hc, .long ms9, .int (nI (dk_try ms9 n9)), .int (nI (dk_q ms9)), .int kn, .int pp, .int qq, .int gg, .ref k1, .int 0])), (k1, .inl (b1, 8, .inl sk))] H := hP
        have hD : va_D A [(k0, .inr (1, [.int mp, .int mq, .int mo, .int hc, .long ms9, .int (nI (dk_try ms9 n9)), .int (nI (dk_q ms9)), .int kn, .int pp, .int qq, .int gg, .ref k1, .int 0])), (k1, .inl (b1, 8, .inl sk))] := hD
        refine lv_aload_n hx hb dX1_generator_31 rfl (lv_at hl 0 rfl) ?_
        refine va_get (D := (dC, dI)) (ci := 1) (v := .int 0) (C := RX1) (T := TX1) (N := 13) hx hb hts (by decide +kernel) hown hK hP 0 rfl rfl 12 (by decide) (hts (.fieldLink RX1 13 "DomainKeysModel" "thrown" "I") (by decide +kernel)) (fun _ h9 => h9) rfl dX1_generator_32 ?_
        refine lv_if_eq (tgt := 40) hx hb dX1_generator_35 (by decide) (fun c_35 => ?_) (fun c_35 => ?_)
        · refine lv_aload_n hx hb dX1_generator_40 rfl (lv_at hl 0 rfl) ?_
          refine va_get (D := (dC, dI)) (ci := 1) (v := .long ms9) (C := RX1) (T := TX1) (N := 13) hx hb hts (by decide +kernel) hown hK hP 0 rfl rfl 4 (by decide) (hts (.fieldLink RX1 54 "DomainKeysModel" "seed" "J") (by decide +kernel)) (fun _ h9 => h9) rfl dX1_generator_41 ?_
          refine lv_ldc2 (v := 100) hx hb hown (hts (.constantLong RX1 67 100) (by decide +kernel)) dX1_generator_44 ?_
          refine lv_iload_n hx hb dX1_generator_47 rfl (lv_at hl 1 rfl) ?_
          refine lv_i2l hx hb dX1_generator_48 rfl ?_
          refine lv_ladd hx hb dX1_generator_49 ?_
          refine lv_topl (fun v_49 ev_49 => ?_)
          have ev_49 : v_49 = lN (100 + ix) := ev_49.trans ((congrArg (fun q => (100 : Int64) + q) (nI_l (by omega))).trans (lN_add 100 ix))
          subst ev_49
          refine vp_callSl (W.runS (As := [.long ms9, .long (lN (100 + ix))]) (rest := []) ⟨hx, hb, hml, hown, hts⟩ (dk_m_h l ms9 (lN (100 + ix))) (va_cwS 2 hts gX1_generator_X1_h rfl rfl rfl (by decide +kernel) ⟨Nat.le_of_ble_eq_true rfl, Nat.le_of_ble_eq_true rfl⟩) ⟨fun _ _ _ _ q9 => q9, fun U hU hW => ⟨rfl, trivial⟩⟩ rfl rfl hl.1 rfl (lv_room (Nat.le_of_ble_eq_true rfl)) dX1_generator_50 ⟨Nat.le_of_ble_eq_true rfl, Nat.le_of_ble_eq_true rfl⟩) (fun r_50 hr_50 => ?_)
          subst hr_50
          refine lv_lstore_n (lv' := [(2, .long (dk_H ms9 (lN (100 + ix)))), (0, .ref k0), (1, .int (nI ix))]) hx hb dX1_generator_53 rfl hl (by decide) rfl (fun ls hl => ?_)
          refine lv_iconst (v := 1) hx hb dX1_generator_54 (by decide) ?_
          refine lv_istore (lv' := [(4, .int 1), (2, .long (dk_H ms9 (lN (100 + ix)))), (0, .ref k0), (1, .int (nI ix))]) hx hb dX1_generator_55 hl (by decide) rfl (fun ls hl => ?_)
          refine dk_mgen_loop dC dI k0 k1 b1 mp mq mo hc ms9 (nI (dk_try ms9 n9)) (nI (dk_q ms9)) kn pp qq gg th sk (dk_try ms9 n9) (dk_q ms9) ix (by have := hok.1; omega) htr.2 (by omega) (by omega) hix hx hb hml hown hts hP hK (fun pc r ls hpc hgn => ?_) 101 1 ls (by omega) (by omega) (by omega) (fun j q1 q2 => absurd q2 (by omega)) (lv_sub hl [2, 1, 0] rfl)
          rcases hpc with rfl | rfl
          · exact W.iret (v := r) hx hb hr (fun t ht hW => ⟨⟨r, (mp, mq, mo, hc, ms9, nI (dk_try ms9 n9), nI (dk_q ms9), kn, pp, qq, gg, 0, sk), rfl, Or.inr (Or.inr ⟨c_5, rfl, ix, hix, rfl, by rw [dk_n_nI htr.2, dk_n_nI (by omega)]; exact hgn⟩), by rw [ht]; exact hP, va_K.moved hW.alike hK, hD⟩, hS.F ht⟩) hS.2.2 dX1_generator_115
          · exact W.iret (v := r) hx hb hr (fun t ht hW => ⟨⟨r, (mp, mq, mo, hc, ms9, nI (dk_try ms9 n9), nI (dk_q ms9), kn, pp, qq, gg, 0, sk), rfl, Or.inr (Or.inr ⟨c_5, rfl, ix, hix, rfl, by rw [dk_n_nI htr.2, dk_n_nI (by omega)]; exact hgn⟩), by rw [ht]; exact hP, va_K.moved hW.alike hK, hD⟩, hS.F ht⟩) hS.2.2 dX1_generator_123
        · exact absurd rfl c_35
      · have hno : ¬ (0 ≤ x ∧ x < 256) := fun q => by
          obtain ⟨ix, q1, rfl⟩ := dk_ge0 q.1
          have q2 := (nI_ltI (b := 256) (by omega) (by omega)).mp q.2
          exact c_20 (nI_le (b := 255) (by omega) (by omega))
        refine lv_iconst (v := 2) hx hb dX1_generator_23 (by decide) ?_
        refine lv_goto (tgt := 28) hx hb dX1_generator_24 (by decide) ?_
        refine va_put (D := (dC, dI)) (ci := 1) (v := .int 2) (ty := .int) (C := RX1) (T := TX1) (N := 13) hx hb hts (by decide +kernel) tyX1 tyX1_ok nmX1 hown hK hP hD hS 0 rfl rfl 12 (by decide) (hts (.fieldLink RX1 13 "DomainKeysModel" "thrown" "I") (by decide +kernel)) (fun _ h9 => h9) rfl (by decide +kernel) rfl rfl (Nat.le_of_ble_eq_true rfl) dX1_generator_28 (fun H locs hP hD hS => ?_)
        have hP : va_P (dC, dI) vwCl [(k0, .inr (1, [.int mp, .int mq, .int mo, .int hc, .long ms9, .int kp, .int kq, .int kn, .int pp, .int qq, .int gg, .ref k1, .int 2])), (k1, .inl (b1, 8, .inl sk))] H := hP
        have hD : va_D A [(k0, .inr (1, [.int mp, .int mq, .int mo, .int hc, .long ms9, .int kp, .int kq, .int kn, .int pp, .int qq, .int gg, .ref k1, .int 2])), (k1, .inl (b1, 8, .inl sk))] := hD
        refine lv_aload_n hx hb dX1_generator_31 rfl (lv_at hl 0 rfl) ?_
        refine va_get (D := (dC, dI)) (ci := 1) (v := .int 2) (C := RX1) (T := TX1) (N := 13) hx hb hts (by decide +kernel) hown hK hP 0 rfl rfl 12 (by decide) (hts (.fieldLink RX1 13 "DomainKeysModel" "thrown" "I") (by decide +kernel)) (fun _ h9 => h9) rfl dX1_generator_32 ?_
        refine lv_if_eq (tgt := 40) hx hb dX1_generator_35 (by decide) (fun c_35 => ?_) (fun c_35 => ?_)
        · exact absurd c_35 (by decide)
        · refine lv_iconst (v := 0) hx hb dX1_generator_38 (by decide) ?_
          exact W.iret (v := 0) hx hb hr (fun t ht hW => ⟨⟨0, (mp, mq, mo, hc, ms9, kp, kq, kn, pp, qq, gg, 2, sk), rfl, Or.inr (Or.inl ⟨c_5, hno, rfl⟩), by rw [ht]; exact hP, va_K.moved hW.alike hK, hD⟩, hS.F ht⟩) hS.2.2 dX1_generator_39
  · refine lv_iconst (v := 1) hx hb dX1_generator_8 (by decide) ?_
    refine lv_goto (tgt := 28) hx hb dX1_generator_9 (by decide) ?_
    refine va_put (D := (dC, dI)) (ci := 1) (v := .int 1) (ty := .int) (C := RX1) (T := TX1) (N := 13) hx hb hts (by decide +kernel) tyX1 tyX1_ok nmX1 hown hK hP hD hS 0 rfl rfl 12 (by decide) (hts (.fieldLink RX1 13 "DomainKeysModel" "thrown" "I") (by decide +kernel)) (fun _ h9 => h9) rfl (by decide +kernel) rfl rfl (Nat.le_of_ble_eq_true rfl) dX1_generator_28 (fun H locs hP hD hS => ?_)
    have hP : va_P (dC, dI) vwCl [(k0, .inr (1, [.int mp, .int mq, .int mo, .int hc, .long ms9, .int kp, .int kq, .int kn, .int pp, .int qq, .int gg, .ref k1, .int 1])), (k1, .inl (b1, 8, .inl sk))] H := hP
    have hD : va_D A [(k0, .inr (1, [.int mp, .int mq, .int mo, .int hc, .long ms9, .int kp, .int kq, .int kn, .int pp, .int qq, .int gg, .ref k1, .int 1])), (k1, .inl (b1, 8, .inl sk))] := hD
    refine lv_aload_n hx hb dX1_generator_31 rfl (lv_at hl 0 rfl) ?_
    refine va_get (D := (dC, dI)) (ci := 1) (v := .int 1) (C := RX1) (T := TX1) (N := 13) hx hb hts (by decide +kernel) hown hK hP 0 rfl rfl 12 (by decide) (hts (.fieldLink RX1 13 "DomainKeysModel" "thrown" "I") (by decide +kernel)) (fun _ h9 => h9) rfl dX1_generator_32 ?_
    refine lv_if_eq (tgt := 40) hx hb dX1_generator_35 (by decide) (fun c_35 => ?_) (fun c_35 => ?_)
    · exact absurd c_35 (by decide)
    · refine lv_iconst (v := 0) hx hb dX1_generator_38 (by decide) ?_
      exact W.iret (v := 0) hx hb hr (fun t ht hW => ⟨⟨0, (mp, mq, mo, hc, ms9, kp, kq, kn, pp, qq, gg, 1, sk), rfl, Or.inl ⟨c_5, rfl⟩, by rw [ht]; exact hP, va_K.moved hW.alike hK, hD⟩, hS.F ht⟩) hS.2.2 dX1_generator_39
end
