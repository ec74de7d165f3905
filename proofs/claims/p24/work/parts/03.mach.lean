section
/-! THE SMALL MACHINE: the same instructions over cells that are told by their places; what it does is a function of numbers and lists. qm_ names. -/
abbrev qm_E : Type := (FieldType × vp_A) ⊕ (Nat × List Value)
abbrev qm_W : Type := List qm_E
abbrev qm_L : Type := List (Nat × Value)
abbrev qm_I : Type := Nat × Instr × Nat × Nat × Nat × Nat × Value
abbrev qm_C : Type := List qm_I
/-- what lies outside: cells that nobody writes (places 0 to 15), and a static that is only carried -/
abbrev qm_X : Type := (Nat → Option qm_E) × Value
abbrev qm_S : Type := Nat × qm_L × List Value × qm_W × Nat × Nat
def qm_cell (X : qm_X) (w : qm_W) (a : Nat) : Option qm_E := if a < 16 then X.1 a else w[a - 16]?
def qm_get (l : qm_L) (i : Nat) : Option Value := (l.find? (fun q => q.1 == i)).map (fun q => q.2)
def qm_put1 (l : qm_L) (i : Nat) (v : Value) : qm_L := (i, v) :: l.filter (fun q => !(q.1 == i) && !(q.1 + 1 == i && q.2.category == 2))
def qm_put2 (l : qm_L) (i : Nat) (v : Value) : qm_L := (i, v) :: l.filter (fun q => !(q.1 == i) && (!(q.1 == i + 1) && !(q.1 + 1 == i && q.2.category == 2)))
def qm_fetch : qm_C → Nat → Option qm_I
  | [], _ => none
  | q :: cd, pc => bif Nat.beq q.1 pc then some q else qm_fetch cd pc
theorem qm_fetch_eq : ∀ (cd : qm_C) (pc : Nat), qm_fetch cd pc = cd.find? (fun q => q.1 == pc)
  | [], _ => rfl
  | q :: cd, pc => by
    show (bif Nat.beq q.1 pc then some q else qm_fetch cd pc) = _
    cases h : Nat.beq q.1 pc
    · have hn : ¬ q.1 = pc := fun e => by
        rw [e, Nat.beq_refl] at h
        cases h
      exact (qm_fetch_eq cd pc).trans (List.find?_cons_of_neg (by simpa using hn)).symm
    · have e : q.1 = pc := Nat.eq_of_beq_eq_true h
      exact (List.find?_cons_of_pos (by simpa using e)).symm
def qm_go (pc : Nat) (ls : qm_L) (st : List Value) (w : qm_W) (c n : Nat) : Option qm_S := some (pc, ls, st, w, c, n)
def qm_to (pc : Nat) (off : Int) : Option Nat := if 0 ≤ (pc : Int) + off then some ((pc : Int) + off).toNat else none
def qm_jump (pc : Nat) (off : Int) (ls : qm_L) (st : List Value) (w : qm_W) (c n : Nat) : Option qm_S := (qm_to pc off).bind fun t => qm_go t ls st w c n
def qm_cond (k : ClassFile.Cond) (x y : Int32) : Bool := match k with
  | .eq => decide (x = y)
  | .ne => decide (¬ x = y)
  | .lt => decide (x < y)
  | .ge => decide (y ≤ x)
  | .gt => decide (y < x)
  | .le => decide (x ≤ y)
def qm_sum (st : List Value) : Nat := (st.map fun v => v.category).sum
def qm_fitb (ty : FieldType) (v : Value) : Bool := decide (narrow ty v = v) && fits ty v
def qm_in (i : Int32) (n : Nat) : Bool := decide (¬ i < 0) && decide (i.toNatClampNeg < n)
/-- the tables' part for a method: its number of locals, its return type, its name, its class, what it may make -/
abbrev qm_M : Type := Nat × Option FieldType × Bool × Nat × Nat × Nat
/-- one instruction -/
def qm_eff (X : qm_X) (T : Nat → Nat → String × String × String × Bool) (M : qm_M) (q : qm_I) (ls : qm_L) (st : List Value) (w : qm_W) (c n : Nat) : Option qm_S :=
  let pc := q.1
  let len := q.2.2.1
  let r1 := q.2.2.2.1
  let r2 := q.2.2.2.2.1
  let r3 := q.2.2.2.2.2.1
  let rv := q.2.2.2.2.2.2
  match q.2.1 with
  | .iconst k => if len = 1 then qm_go (pc + 1) ls (.int (Int32.ofInt k) :: st) w c n else none
  | .bipush k => if len = 2 then qm_go (pc + 2) ls (.int (Int8.ofInt k).toInt32 :: st) w c n else none
  | .sipush k => if len = 3 then qm_go (pc + 3) ls (.int (Int16.ofInt k).toInt32 :: st) w c n else none
  | .lconst k => if len = 1 then qm_go (pc + 1) ls (.long (Int64.ofNat (k : Nat)) :: st) w c n else none
  | .ldc _ => if len = 2 ∧ (r3 = 0 ∨ r3 = 1) then qm_go (pc + 2) ls (rv :: st) w c n else none
  | .ldc_w _ => if len = 3 ∧ r3 = 0 then qm_go (pc + 3) ls (rv :: st) w c n else none
  | .ldc2_w _ => if len = 3 ∧ r3 = 2 then qm_go (pc + 3) ls (rv :: st) w c n else none
  | .iload_n k => match qm_get ls (k : Nat) with | some (.int x) => if len = 1 then qm_go (pc + 1) ls (.int x :: st) w c n else none | _ => none
  | .iload k => match qm_get ls k with | some (.int x) => if len = 2 then qm_go (pc + 2) ls (.int x :: st) w c n else none | _ => none
  | .lload_n k => match qm_get ls (k : Nat) with | some (.long x) => if len = 1 then qm_go (pc + 1) ls (.long x :: st) w c n else none | _ => none
  | .lload k => match qm_get ls k with | some (.long x) => if len = 2 then qm_go (pc + 2) ls (.long x :: st) w c n else none | _ => none
  | .aload_n k => match qm_get ls (k : Nat) with | some (.ref x) => if len = 1 then qm_go (pc + 1) ls (.ref x :: st) w c n else none | _ => none
  | .aload k => match qm_get ls k with | some (.ref x) => if len = 2 then qm_go (pc + 2) ls (.ref x :: st) w c n else none | _ => none
  | .istore_n k => match st with | .int x :: s => if len = 1 ∧ (k : Nat) < M.1 then qm_go (pc + 1) (qm_put1 ls (k : Nat) (.int x)) s w c n else none | _ => none
  | .istore k => match st with | .int x :: s => if len = 2 ∧ k < M.1 then qm_go (pc + 2) (qm_put1 ls k (.int x)) s w c n else none | _ => none
  | .astore_n k => match st with | .ref x :: s => if len = 1 ∧ (k : Nat) < M.1 then qm_go (pc + 1) (qm_put1 ls (k : Nat) (.ref x)) s w c n else none | _ => none
  | .astore k => match st with | .ref x :: s => if len = 2 ∧ k < M.1 then qm_go (pc + 2) (qm_put1 ls k (.ref x)) s w c n else none | _ => none
  | .lstore_n k => match st with | .long x :: s => if len = 1 ∧ (k : Nat) + 1 < M.1 then qm_go (pc + 1) (qm_put2 ls (k : Nat) (.long x)) s w c n else none | _ => none
  | .lstore k => match st with | .long x :: s => if len = 2 ∧ k + 1 < M.1 then qm_go (pc + 2) (qm_put2 ls k (.long x)) s w c n else none | _ => none
  | .iinc k d => match qm_get ls k with | some (.int x) => if len = 3 ∧ k < M.1 then qm_go (pc + 3) (qm_put1 ls k (.int (x + Int32.ofInt d))) st w c n else none | _ => none
  | .iadd => match st with | .int y :: .int x :: s => if len = 1 then qm_go (pc + 1) ls (.int (x + y) :: s) w c n else none | _ => none
  | .isub => match st with | .int y :: .int x :: s => if len = 1 then qm_go (pc + 1) ls (.int (x - y) :: s) w c n else none | _ => none
  | .imul => match st with | .int y :: .int x :: s => if len = 1 then qm_go (pc + 1) ls (.int (x * y) :: s) w c n else none | _ => none
  | .iand => match st with | .int y :: .int x :: s => if len = 1 then qm_go (pc + 1) ls (.int (x &&& y) :: s) w c n else none | _ => none
  | .ior => match st with | .int y :: .int x :: s => if len = 1 then qm_go (pc + 1) ls (.int (x ||| y) :: s) w c n else none | _ => none
  | .ixor => match st with | .int y :: .int x :: s => if len = 1 then qm_go (pc + 1) ls (.int (x ^^^ y) :: s) w c n else none | _ => none
  | .idiv => match st with | .int y :: .int x :: s => if len = 1 ∧ ¬ y = 0 then qm_go (pc + 1) ls (.int (x / y) :: s) w c n else none | _ => none
  | .irem => match st with | .int y :: .int x :: s => if len = 1 ∧ ¬ y = 0 then qm_go (pc + 1) ls (.int (x - x / y * y) :: s) w c n else none | _ => none
  | .ineg => match st with | .int x :: s => if len = 1 then qm_go (pc + 1) ls (.int (-x) :: s) w c n else none | _ => none
  | .ladd => match st with | .long y :: .long x :: s => if len = 1 then qm_go (pc + 1) ls (.long (x + y) :: s) w c n else none | _ => none
  | .lsub => match st with | .long y :: .long x :: s => if len = 1 then qm_go (pc + 1) ls (.long (x - y) :: s) w c n else none | _ => none
  | .lmul => match st with | .long y :: .long x :: s => if len = 1 then qm_go (pc + 1) ls (.long (x * y) :: s) w c n else none | _ => none
  | .land => match st with | .long y :: .long x :: s => if len = 1 then qm_go (pc + 1) ls (.long (x &&& y) :: s) w c n else none | _ => none
  | .lor => match st with | .long y :: .long x :: s => if len = 1 then qm_go (pc + 1) ls (.long (x ||| y) :: s) w c n else none | _ => none
  | .lxor => match st with | .long y :: .long x :: s => if len = 1 then qm_go (pc + 1) ls (.long (x ^^^ y) :: s) w c n else none | _ => none
  | .ishl => match st with | .int y :: .int x :: s => if len = 1 then qm_go (pc + 1) ls (.int (x <<< (y &&& 31)) :: s) w c n else none | _ => none
  | .ishr => match st with | .int y :: .int x :: s => if len = 1 then qm_go (pc + 1) ls (.int (x >>> (y &&& 31)) :: s) w c n else none | _ => none
  | .iushr => match st with | .int y :: .int x :: s => if len = 1 then qm_go (pc + 1) ls (.int (x.toUInt32 >>> (y.toUInt32 &&& Int32.toUInt32 31)).toInt32 :: s) w c n else none | _ => none
  | .lshl => match st with | .int y :: .long x :: s => if len = 1 then qm_go (pc + 1) ls (.long (x <<< (y.toInt64 &&& 63)) :: s) w c n else none | _ => none
  | .lshr => match st with | .int y :: .long x :: s => if len = 1 then qm_go (pc + 1) ls (.long (x >>> (y.toInt64 &&& 63)) :: s) w c n else none | _ => none
  | .lushr => match st with | .int y :: .long x :: s => if len = 1 then qm_go (pc + 1) ls (.long (x.toUInt64 >>> (y.toInt64.toUInt64 &&& Int64.toUInt64 63)).toInt64 :: s) w c n else none | _ => none
  | .lcmp => match st with | .long y :: .long x :: s => if len = 1 then qm_go (pc + 1) ls (.int (lg_cmp x y) :: s) w c n else none | _ => none
  | .i2l => match st with | .int x :: s => if len = 1 then qm_go (pc + 1) ls (.long x.toInt64 :: s) w c n else none | _ => none
  | .l2i => match st with | .long x :: s => if len = 1 then qm_go (pc + 1) ls (.int x.toInt32 :: s) w c n else none | _ => none
  | .i2b => match st with | .int x :: s => if len = 1 then qm_go (pc + 1) ls (.int x.toInt8.toInt32 :: s) w c n else none | _ => none
  | .i2s => match st with | .int x :: s => if len = 1 then qm_go (pc + 1) ls (.int x.toInt16.toInt32 :: s) w c n else none | _ => none
  | .i2c => match st with | .int x :: s => if len = 1 then qm_go (pc + 1) ls (.int (x.toUInt32 % 65536).toInt32 :: s) w c n else none | _ => none
  | .dup => match st with | a :: s => if len = 1 ∧ a.category = 1 then qm_go (pc + 1) ls (a :: a :: s) w c n else none | _ => none
  | .dup_x1 => match st with | a :: b :: s => if len = 1 ∧ a.category = 1 ∧ b.category = 1 then qm_go (pc + 1) ls (a :: b :: a :: s) w c n else none | _ => none
  | .dup2 => match st with | a :: b :: s => if len = 1 ∧ a.category = 1 ∧ b.category = 1 then qm_go (pc + 1) ls (a :: b :: a :: b :: s) w c n else none | _ => none
  | .pop => match st with | a :: s => if len = 1 ∧ a.category = 1 then qm_go (pc + 1) ls s w c n else none | _ => none
  | .pop2 => match st with | a :: s => if len = 1 ∧ a.category = 2 then qm_go (pc + 1) ls s w c n else none | _ => none
  | .ifCond k off => match st with | .int x :: s => if len = 3 then (if qm_cond k x 0 then qm_jump pc off ls s w c n else qm_go (pc + 3) ls s w c n) else none | _ => none
  | .if_icmp k off => match st with | .int y :: .int x :: s => if len = 3 then (if qm_cond k x y then qm_jump pc off ls s w c n else qm_go (pc + 3) ls s w c n) else none | _ => none
  | .goto off => if len = 3 then qm_jump pc off ls st w c n else none
  | .tableswitch dflt lo hi offs => match st with | .int x :: s => (if x.toInt < lo ∨ hi < x.toInt then qm_jump pc dflt ls s w c n else (offs[(x.toInt - lo).toNat]?).bind fun off => qm_jump pc off ls s w c n) | _ => none
  | .lookupswitch dflt ps => match st with | .int x :: s => (if (ps.toList.zip (ps.toList.drop 1)).all (fun (a, next) => a.1 < next.1) = true then qm_jump pc (Op.lookupswitch.offset ps.toList dflt x.toInt) ls s w c n else none) | _ => none
  | .getfield _ => match st with | .ref a :: s => (match qm_cell X w a with | some (.inr (ci, fs)) => (match fs[r2]? with | some v => if len = 3 ∧ ci = r1 ∧ ¬ r3 = 9 then qm_go (pc + 3) ls (v :: s) w c n else none | _ => none) | _ => none) | _ => none
  | .putfield _ => match st with | v :: .ref a :: s => (match w[a - 16]? with | some (.inr (ci, fs)) => if len = 3 ∧ 16 ≤ a ∧ ci = r1 ∧ r3 = 0 ∧ r2 < fs.length ∧ ((T r1 r2).2.2.2 = true → M.2.2.1 = true ∧ M.2.2.2.1 = r1) ∧ (parseFieldDescriptor (T r1 r2).2.2.1).any (fun ty => qm_fitb ty v) = true then qm_go (pc + 3) ls s (w.set (a - 16) (.inr (ci, fs.set r2 v))) c n else none | _ => none) | _ => none
  | .getstatic _ => if len = 3 ∧ r3 = 0 then qm_go (pc + 3) ls (rv :: st) w c n else if len = 3 ∧ r3 = 1 then qm_go (pc + 3) ls (X.2 :: st) w c n else none
  | .iaload => match st with | .int i :: .ref a :: s => (match qm_cell X w a with | some (.inl (.int, m, .inl f)) => if len = 1 ∧ qm_in i m = true then qm_go (pc + 1) ls (.int (f i.toNatClampNeg) :: s) w c n else none | _ => none) | _ => none
  | .laload => match st with | .int i :: .ref a :: s => (match w[a - 16]? with | some (.inl (.long, m, .inr (.inl f))) => if len = 1 ∧ 16 ≤ a ∧ qm_in i m = true then qm_go (pc + 1) ls (.long (f i.toNatClampNeg) :: s) w c n else none | _ => none) | _ => none
  | .baload => match st with
      | .int i :: .ref a :: s => (match qm_cell X w a with
          | some (.inl (.boolean, m, .inl f)) => if len = 1 ∧ 16 ≤ a ∧ qm_in i m = true then qm_go (pc + 1) ls (.int (f i.toNatClampNeg) :: s) w c n else none
          | some (.inl (.byte, m, .inl f)) => if len = 1 ∧ a < 16 ∧ qm_in i m = true then qm_go (pc + 1) ls (.int (f i.toNatClampNeg) :: s) w c n else none
          | _ => none)
      | _ => none
  | .aaload => match st with | .int i :: .ref a :: s => (match w[a - 16]? with | some (.inl (.object C, m, .inr (.inr (.inr (.inr f))))) => if len = 1 ∧ 16 ≤ a ∧ C = "OneRoof$Custom" ∧ qm_in i m = true then qm_go (pc + 1) ls (va_rf (f i.toNatClampNeg) :: s) w c n else none | _ => none) | _ => none
  | .iastore => match st with | .int x :: .int i :: .ref a :: s => (match w[a - 16]? with | some (.inl (.int, m, .inl f)) => if len = 1 ∧ 16 ≤ a ∧ qm_in i m = true then qm_go (pc + 1) ls s (w.set (a - 16) (.inl (.int, m, .inl (upd f i.toNatClampNeg x)))) c n else none | _ => none) | _ => none
  | .lastore => match st with | .long x :: .int i :: .ref a :: s => (match w[a - 16]? with | some (.inl (.long, m, .inr (.inl f))) => if len = 1 ∧ 16 ≤ a ∧ qm_in i m = true then qm_go (pc + 1) ls s (w.set (a - 16) (.inl (.long, m, .inr (.inl (vp_updL f i.toNatClampNeg x))))) c n else none | _ => none) | _ => none
  | .bastore => match st with | .int x :: .int i :: .ref a :: s => (match w[a - 16]? with | some (.inl (.boolean, m, .inl f)) => if len = 1 ∧ 16 ≤ a ∧ qm_in i m = true then qm_go (pc + 1) ls s (w.set (a - 16) (.inl (.boolean, m, .inl (upd f i.toNatClampNeg (vp_nar .boolean x))))) c n else none | _ => none) | _ => none
  | .aastore => match st with | .ref v :: .int i :: .ref a :: s => (match w[a - 16]?, w[v - 16]? with | some (.inl (.object C, m, .inr (.inr (.inr (.inr f))))), some (.inr (cv, _)) => if len = 1 ∧ 16 ≤ a ∧ 16 ≤ v ∧ cv = 7 ∧ C = "OneRoof$Custom" ∧ qm_in i m = true then qm_go (pc + 1) ls s (w.set (a - 16) (.inl (.object C, m, .inr (.inr (.inr (.inr (va_up f i.toNatClampNeg (some v)))))))) c n else none | _, _ => none) | _ => none
  | .arraylength => match st with | .ref a :: s => (match qm_cell X w a with | some (.inl (ty, m, _)) => if len = 1 ∧ (a < 16 ∨ ty = .int ∨ ty = .long ∨ ty = .boolean ∨ ty = .object "OneRoof$Custom") then qm_go (pc + 1) ls (.int (Int32.ofNat m) :: s) w c n else none | _ => none) | _ => none
  | .newarray at_ => match st with
      | .int k :: s => if len = 2 ∧ ¬ k < 0 ∧ k.toNatClampNeg ≤ 1000000 ∧ c + 1 ≤ M.2.2.2.2.1 ∧ n + k.toNatClampNeg ≤ M.2.2.2.2.2 then (match at_ with
          | .int => qm_go (pc + 2) ls (.ref (16 + w.length) :: s) (w ++ [.inl (.int, k.toNatClampNeg, .inl (fun _ => 0))]) (c + 1) (n + k.toNatClampNeg)
          | .long => qm_go (pc + 2) ls (.ref (16 + w.length) :: s) (w ++ [.inl (.long, k.toNatClampNeg, .inr (.inl (fun _ => 0)))]) (c + 1) (n + k.toNatClampNeg)
          | .boolean => qm_go (pc + 2) ls (.ref (16 + w.length) :: s) (w ++ [.inl (.boolean, k.toNatClampNeg, .inl (fun _ => 0))]) (c + 1) (n + k.toNatClampNeg)
          | _ => none) else none
      | _ => none
  | .anewarray _ => match st with | .int k :: s => if len = 3 ∧ r1 = 7 ∧ r3 = 0 ∧ ¬ k < 0 ∧ k.toNatClampNeg ≤ 1000000 ∧ c + 1 ≤ M.2.2.2.2.1 ∧ n + k.toNatClampNeg ≤ M.2.2.2.2.2 then qm_go (pc + 3) ls (.ref (16 + w.length) :: s) (w ++ [.inl (.object "OneRoof$Custom", k.toNatClampNeg, .inr (.inr (.inr (.inr (fun _ => none)))))]) (c + 1) (n + k.toNatClampNeg) else none | _ => none
  | .new _ => if len = 3 ∧ r3 = 0 ∧ c + 1 ≤ M.2.2.2.2.1 ∧ n + ((qx_cl[r1]?).map (fun q => q.2.2)).getD 0 ≤ M.2.2.2.2.2 then (match qx_cl[r1]? with | some q => qm_go (pc + 3) ls (.ref (16 + w.length) :: st) (w ++ [.inr (r1, (List.range q.2.2).map (fun j => defaultValue (qx_ty r1 j)))]) (c + 1) (n + q.2.2) | none => none) else none
  | .invokestatic _ => match st with
        | .int k :: .int dp :: .ref a1 :: .int sp :: .ref a0 :: s => if len = 3 ∧ r3 = 7 ∧ 16 ≤ a0 ∧ 16 ≤ a1 ∧ ¬ sp < 0 ∧ ¬ dp < 0 ∧ ¬ k < 0 ∧ qm_sum s ≤ 8 then (match w[a0 - 16]?, w[a1 - 16]? with
            | some (.inl (.int, n0, .inl f)), some (.inl (.int, n1, .inl g)) => if sp.toNatClampNeg + k.toNatClampNeg ≤ n0 ∧ dp.toNatClampNeg + k.toNatClampNeg ≤ n1 then qm_go (pc + 3) ls s (w.set (a1 - 16) (.inl (.int, n1, .inl (va_cpy f g sp.toNatClampNeg dp.toNatClampNeg k.toNatClampNeg)))) c n else none
            | some (.inl (.long, n0, .inr (.inl f))), some (.inl (.long, n1, .inr (.inl g))) => if sp.toNatClampNeg + k.toNatClampNeg ≤ n0 ∧ dp.toNatClampNeg + k.toNatClampNeg ≤ n1 then qm_go (pc + 3) ls s (w.set (a1 - 16) (.inl (.long, n1, .inr (.inl (va_cpy f g sp.toNatClampNeg dp.toNatClampNeg k.toNatClampNeg))))) c n else none
            | _, _ => none) else none
        | _ => none
  | .invokespecial _ => match st with
      | .ref a :: s => if len = 3 ∧ r3 = 6 ∧ r2 = 0 ∧ qm_sum s ≤ 8 then qm_go (pc + 3) ls s w c n else none
      | _ => none
  | _ => none
/-- a call: which, with what, where it goes on, with what below -/
def qm_call (X : qm_X) (q : qm_I) (st : List Value) (w : qm_W) : Option (Nat × List Value × Nat × List Value) :=
  match q.2.1 with
  | .invokevirtual _ => match st[q.2.2.2.2.1]? with
      | some (.ref a) => (match qm_cell X w a with
          | some (.inr (ci, _)) => if q.2.2.1 = 3 ∧ (q.2.2.2.2.2.1 = 0 ∨ q.2.2.2.2.2.1 = 1) ∧ q.2.2.2.2.2.2 = .ref ci ∧ qm_sum (st.drop (q.2.2.2.2.1 + 1)) ≤ 8 then some (q.2.2.2.1, .ref a :: (st.take q.2.2.2.2.1).reverse, q.1 + 3, st.drop (q.2.2.2.2.1 + 1)) else none
          | _ => none)
      | _ => none
  | .invokestatic _ => if q.2.2.1 = 3 ∧ (q.2.2.2.2.2.1 = 2 ∨ q.2.2.2.2.2.1 = 3) ∧ q.2.2.2.2.1 ≤ st.length ∧ qm_sum (st.drop q.2.2.2.2.1) ≤ 8 then some (q.2.2.2.1, (st.take q.2.2.2.2.1).reverse, q.1 + 3, st.drop q.2.2.2.2.1) else none
  | .invokespecial _ => match st[q.2.2.2.2.1]? with
      | some (.ref a) => if q.2.2.1 = 3 ∧ (q.2.2.2.2.2.1 = 4 ∨ q.2.2.2.2.2.1 = 5) ∧ qm_sum (st.drop (q.2.2.2.2.1 + 1)) ≤ 8 then some (q.2.2.2.1, .ref a :: (st.take q.2.2.2.2.1).reverse, q.1 + 3, st.drop (q.2.2.2.2.1 + 1)) else none
      | _ => none
  | _ => none
/-- a return -/
def qm_retn (M : qm_M) (q : qm_I) (st : List Value) : Option (Option Value) :=
  match q.2.1 with
  | .ireturn => match st with | [.int x] => (match M.2.1 with | some ty => if q.2.2.1 = 1 ∧ narrow ty (.int x) = .int x then some (some (.int x)) else none | none => none) | _ => none
  | .lreturn => match st with | [.long x] => if q.2.2.1 = 1 ∧ M.2.1 = some .long then some (some (.long x)) else none | _ => none
  | .return_ => match st with | [] => if q.2.2.1 = 1 ∧ M.2.1 = none then some none else none | _ => none
  | _ => none
/-- one step of a method's code -/
def qm_step (C : Nat → List Value → qm_W → (Option Value → qm_W → Prop) → Prop) (B : Nat → Nat × Nat) (X : qm_X) (M : qm_M) (cd : qm_C) (Q : Option Value → qm_W → Prop) (P : qm_S → Prop) (s : qm_S) : Prop :=
  match qm_fetch cd s.1 with
  | none => False
  | some q => match qm_call X q s.2.2.1 s.2.2.2.1 with
    | some k => s.2.2.2.2.1 + (B k.1).1 ≤ M.2.2.2.2.1 ∧ s.2.2.2.2.2 + (B k.1).2 ≤ M.2.2.2.2.2 ∧ C k.1 k.2.1 s.2.2.2.1 (fun r w' => P (k.2.2.1, s.2.1, r.toList ++ k.2.2.2, w', s.2.2.2.2.1 + (B k.1).1, s.2.2.2.2.2 + (B k.1).2))
    | none => match qm_retn M q s.2.2.1 with
      | some r => s.2.2.2.2.1 ≤ M.2.2.2.2.1 ∧ s.2.2.2.2.2 ≤ M.2.2.2.2.2 ∧ Q r s.2.2.2.1
      | none => match qm_eff X qx_T M q s.2.1 s.2.2.1 s.2.2.2.1 s.2.2.2.2.1 s.2.2.2.2.2 with
        | none => False
        | some s' => P s'
/-- the least predicate that is closed under steps: from here the method returns, with Q -/
def qm_wp (C : Nat → List Value → qm_W → (Option Value → qm_W → Prop) → Prop) (B : Nat → Nat × Nat) (X : qm_X) (M : qm_M) (cd : qm_C) (Q : Option Value → qm_W → Prop) (s : qm_S) : Prop :=
  ∀ P : qm_S → Prop, (∀ s, qm_step C B X M cd Q P s → P s) → P s
def qm_mono (C : Nat → List Value → qm_W → (Option Value → qm_W → Prop) → Prop) : Prop := ∀ k as w (Q Q' : Option Value → qm_W → Prop), (∀ r w', Q r w' → Q' r w') → C k as w Q → C k as w Q'
theorem qm_step_mono {C B X M cd} {Q Q' : Option Value → qm_W → Prop} {P P' : qm_S → Prop} (hC : qm_mono C) (hQ : ∀ r w, Q r w → Q' r w) (hP : ∀ s, P s → P' s) {s : qm_S} (h : qm_step C B X M cd Q P s) : qm_step C B X M cd Q' P' s := by
  unfold qm_step at h ⊢
  split at h
  · exact h.elim
  · split at h
    · exact ⟨h.1, h.2.1, hC _ _ _ _ _ (fun r w' hh => hP _ hh) h.2.2⟩
    · split at h
      · exact ⟨h.1, h.2.1, hQ _ _ h.2.2⟩
      · split at h
        · exact h.elim
        · exact hP _ h
theorem qm_wp_go {C B X M cd} {Q : Option Value → qm_W → Prop} (hC : qm_mono C) {s : qm_S} (h : qm_step C B X M cd Q (qm_wp C B X M cd Q) s) : qm_wp C B X M cd Q s :=
  fun P hP => hP s (qm_step_mono hC (fun _ _ h => h) (fun s hs => hs P hP) h)
theorem qm_wp_mono {C B X M cd} {Q Q' : Option Value → qm_W → Prop} (hC : qm_mono C) (hQ : ∀ r w, Q r w → Q' r w) {s : qm_S} (h : qm_wp C B X M cd Q s) : qm_wp C B X M cd Q' s :=
  h (qm_wp C B X M cd Q') (fun _ hs => qm_wp_go hC (qm_step_mono hC hQ (fun _ h => h) hs))
/-- calls within a depth -/
theorem qm_wp_sub {C C' B X M cd} {Q : Option Value → qm_W → Prop} (hC' : qm_mono C') (hCC : ∀ k as w Q, C k as w Q → C' k as w Q) {s : qm_S} (h : qm_wp C B X M cd Q s) : qm_wp C' B X M cd Q s := by
  refine h (qm_wp C' B X M cd Q) (fun s hs => qm_wp_go hC' ?_)
  unfold qm_step at hs ⊢
  split at hs
  · exact hs.elim
  · split at hs
    · exact ⟨hs.1, hs.2.1, hCC _ _ _ _ hs.2.2⟩
    · split at hs
      · exact hs
      · split at hs
        · exact hs.elim
        · exact hs
def qm_ent (k : Nat) : Option (Nat × MethodName × ByteArray × Nat × Option FieldType × Nat × Nat × qm_C) := qx_mt[k]?
def qm_bud (k : Nat) : Nat × Nat := match qm_ent k with | some x => (x.2.2.2.2.2.1, x.2.2.2.2.2.2.1) | none => (0, 0)
def qm_M1 (x : Nat × MethodName × ByteArray × Nat × Option FieldType × Nat × Nat × qm_C) : qm_M := (x.2.2.2.1, x.2.2.2.2.1, decide (x.2.1.name = "<init>"), qx_oc x.1, x.2.2.2.2.2.1, x.2.2.2.2.2.2.1)
def qm_T (X : qm_X) : Nat → Nat → List Value → qm_W → (Option Value → qm_W → Prop) → Prop
  | 0, _, _, _, _ => False
  | d + 1, k, as, w, Q => match qm_ent k with
    | none => False
    | some x => (lg_sl as).length ≤ x.2.2.2.1 ∧ qm_wp (qm_T X d) qm_bud X (qm_M1 x) x.2.2.2.2.2.2.2 Q (0, lv_args 0 as, [], w, 0, 0)
theorem qm_T_mono (X : qm_X) : ∀ d, qm_mono (qm_T X d)
  | 0 => fun _ _ _ _ _ _ h => h
  | d + 1 => fun k as w Q Q' hQ h => by
    unfold qm_T at h ⊢
    split at h
    · exact h
    · exact ⟨h.1, qm_wp_mono (qm_T_mono X d) hQ h.2⟩
theorem qm_T_up (X : qm_X) : ∀ d k as w Q, qm_T X d k as w Q → qm_T X (d + 1) k as w Q
  | 0, _, _, _, _, h => h.elim
  | d + 1, k, as, w, Q, h => by
    unfold qm_T at h ⊢
    split at h
    · exact h
    · exact ⟨h.1, qm_wp_sub (qm_T_mono X (d + 1)) (qm_T_up X d) h.2⟩
theorem qm_T_le (X : qm_X) {d d' k as w Q} (hd : d ≤ d') (h : qm_T X d k as w Q) : qm_T X d' k as w Q := by
  induction hd with
  | refl => exact h
  | step _ ih => exact qm_T_up X _ _ _ _ _ ih
end
section
/-! the small machine's cells as cells of the heap -/
def qs_TB : List Cond := lw_tbl.filter goodWord
theorem qs_in {w : Cond} (h : w ∈ lw_tbl) (g : goodWord w = true) : w ∈ qs_TB := List.mem_filter.mpr ⟨h, g⟩
abbrev qs_Ent : Type := Nat × MethodName × ByteArray × Nat × Option FieldType × Nat × Nat × qm_C
def qs_ws (x : qs_Ent) : List Cond := Cond.code x.2.1 x.2.2.1 x.2.2.2.1 x.2.2.2.2.1 :: qs_TB
def qs_rm (d : Nat) (x : qs_Ent) : Room := { frames := d, cells := x.2.2.2.2.2.1, slots := x.2.2.2.2.2.2.1, locals := 60 * d }
def qs_ad (xa : Nat → Nat) (base : Nat) (a : Nat) : Nat := if a < 16 then xa a else base + (a - 16)
def qs_tv (xa : Nat → Nat) (base : Nat) : Value → Value
  | .ref a => .ref (qs_ad xa base a)
  | .int x => .int x
  | .long x => .long x
  | .float x => .float x
  | .double x => .double x
  | .null => .null
  | .retAddr x => .retAddr x
def qs_ta (xa : Nat → Nat) (base : Nat) : ((Nat → Int32) ⊕ (Nat → Int64) ⊕ (Nat → UInt32) ⊕ (Nat → UInt64) ⊕ (Nat → Option Nat)) → ((Nat → Int32) ⊕ (Nat → Int64) ⊕ (Nat → UInt32) ⊕ (Nat → UInt64) ⊕ (Nat → Option Nat))
  | .inl f => .inl f
  | .inr (.inl f) => .inr (.inl f)
  | .inr (.inr (.inl f)) => .inr (.inr (.inl f))
  | .inr (.inr (.inr (.inl f))) => .inr (.inr (.inr (.inl f)))
  | .inr (.inr (.inr (.inr f))) => .inr (.inr (.inr (.inr (fun k => (f k).map (qs_ad xa base)))))
def qs_te (xa : Nat → Nat) (base : Nat) (cA : FieldType → ClassId) : qm_E → va_E
  | .inl x => .inl (cA x.1, x.2.1, qs_ta xa base x.2.2)
  | .inr x => .inr (x.1, x.2.map (qs_tv xa base))
def qs_tl (xa : Nat → Nat) (base : Nat) (ls : qm_L) : qm_L := ls.map (fun q => (q.1, qs_tv xa base q.2))
/-- the heap holds the small world from base on, and nothing behind it -/
def qs_R (xa : Nat → Nat) (base : Nat) (cA : FieldType → ClassId) (D : va_G) (w : qm_W) (H : Heap) : Prop := H.size = base + w.length ∧ ∀ (k : Nat) (e : qm_E), w[k]? = some e → va_at D qx_cl (base + k, qs_te xa base cA e) H
def qs_tys (cA : FieldType → ClassId) : List (ClassId × FieldType) := [(cA .int, .int), (cA .long, .long), (cA .boolean, .boolean), (cA (.object "OneRoof$Custom"), .object "OneRoof$Custom")]
abbrev qs_A (base : Nat) : Nat → Prop := fun q => base ≤ q
/-- what lies outside, as the small machine has it -/
def qs_X (xa : Nat → Nat) (base : Nat) (X : qm_X) (U : State) (H : Heap) : Prop :=
  (∀ (j n : Nat) (ty : FieldType) (f : Nat → Int32), j < 16 → X.1 j = some (.inl (ty, n, .inl f)) → va_T ty (xa j) n (fun k => .int (f k)) (qs_A base) U H) ∧
  (∀ (j ci : Nat) (fs : List Value), j < 16 → X.1 j = some (.inr (ci, fs)) → ci = 13 ∧ va_O "java/lang/String" (xa j) (qs_A base) U H ∧ (∀ v, fs[0]? = some v → va_OF "java/lang/String" "value" "[B" (qs_tv xa base v) (xa j) (qs_A base) U H) ∧ ∀ v, fs[1]? = some v → va_OF "java/lang/String" "coder" "B" (qs_tv xa base v) (xa j) (qs_A base) U H) ∧
  (∀ q ∈ qx_sta, va_Z q.1 q.2.1 q.2.2.1 (qs_tv xa base (q.2.2.2.getD X.2)) (qs_A base) U H) ∧
  (∀ q ∈ qx_str, vk_R q.1 q.2.1 q.2.2.1 (xa q.2.2.2) U) ∧
  (∀ w ∈ qx_nest, va_Nw w U) ∧ va_AO "OneRoof$Custom" U
def qs_B (xa : Nat → Nat) (base : Nat) (cA : FieldType → ClassId) (D : va_G) (X : qm_X) (w : qm_W) (U : State) : Prop := qs_R xa base cA D w U.heap ∧ va_K D qx_cl (qs_tys cA) U ∧ qs_X xa base X U U.heap
def qs_Q (xa : Nat → Nat) (base : Nat) (cA : FieldType → ClassId) (D : va_G) (Q : Option Value → qm_W → Prop) : Array Value → State → Outcome → State → Prop := fun _ st oc t => (∃ (r : Option Value) (w' : qm_W), oc = .returned (r.map (qs_tv xa base)) ∧ Q r w' ∧ qs_R xa base cA D w' t.heap) ∧ va_F (qs_A base) st t
section QS1
variable {xa : Nat → Nat} {base : Nat} {cA : FieldType → ClassId} {D : va_G} {X : qm_X}
theorem qs_tv_cat (v : Value) : (qs_tv xa base v).category = v.category := by cases v <;> rfl
theorem qs_sum_map (st : List Value) : ((st.map (qs_tv xa base)).map fun v => v.category).sum = qm_sum st := by
  unfold qm_sum
  rw [List.map_map]
  congr 1
  exact List.map_congr_left (fun v _ => qs_tv_cat v)
theorem qs_nar (ty : FieldType) (a b : Nat) : narrow ty (.ref a) = .ref a → narrow ty (.ref b) = .ref b := by
  cases ty <;> simp [narrow]
theorem qs_fitv {ty : FieldType} {v : Value} (h : qm_fitb ty v = true) : narrow ty (qs_tv xa base v) = qs_tv xa base v ∧ fits ty (qs_tv xa base v) = true := by
  unfold qm_fitb at h
  rw [Bool.and_eq_true, decide_eq_true_eq] at h
  obtain ⟨h1, h2⟩ := h
  cases v with
  | ref a =>
    refine ⟨qs_nar ty a _ h1, ?_⟩
    cases ty <;> simp [fits, qs_tv] at h2 ⊢
  | _ => exact ⟨h1, h2⟩
theorem qs_get {ls : Array Slot} {n : Nat} {l : qm_L} {i : Nat} {v : Value} (h : lv_has ls n (qs_tl xa base l)) (hg : qm_get l i = some v) : ls[i]? = some (.val (qs_tv xa base v)) := by
  unfold qm_get at hg
  cases hf : l.find? (fun q => q.1 == i) with
  | none => rw [hf] at hg; cases hg
  | some q =>
    rw [hf] at hg
    have h1 := List.find?_some hf
    have h2 := List.mem_of_find?_eq_some hf
    have h3 : q.1 = i := by simpa using h1
    cases hg
    have h4 := h.2.2 (q.1, qs_tv xa base q.2) (List.mem_map.mpr ⟨q, h2, rfl⟩)
    rw [← h3]
    exact h4
theorem qs_put1 (l : qm_L) (i : Nat) (v : Value) : (i, qs_tv xa base v) :: (qs_tl xa base l).filter (fun q => !(q.1 == i) && !(q.1 + 1 == i && q.2.category == 2)) = qs_tl xa base (qm_put1 l i v) := by
  unfold qm_put1 qs_tl
  rw [List.map_cons, List.filter_map]
  congr 2
  exact List.filter_congr (fun q _ => by simp [Function.comp, qs_tv_cat])
theorem qs_put2 (l : qm_L) (i : Nat) (v : Value) : (i, qs_tv xa base v) :: (qs_tl xa base l).filter (fun q => !(q.1 == i) && (!(q.1 == i + 1) && !(q.1 + 1 == i && q.2.category == 2))) = qs_tl xa base (qm_put2 l i v) := by
  unfold qm_put2 qs_tl
  rw [List.map_cons, List.filter_map]
  congr 2
  exact List.filter_congr (fun q _ => by simp [Function.comp, qs_tv_cat])
theorem qs_R_set {w : qm_W} {H H1 : Heap} {k : Nat} {e0 e : qm_E} (h : qs_R xa base cA D w H) (hk : w[k]? = some e0) (he : va_at D qx_cl (base + k, qs_te xa base cA e) H1) (z : H1.size = H.size) (o : ∀ q : Nat, q ≠ base + k → H1[q]? = H[q]?) : qs_R xa base cA D (w.set k e) H1 := by
  refine ⟨by rw [z, h.1, List.length_set], fun j e' hj => ?_⟩
  by_cases hjk : j = k
  · subst hjk
    rw [List.getElem?_set_self (List.getElem?_eq_some_iff.mp hk).1] at hj
    cases hj
    exact he
  · rw [List.getElem?_set_ne (Ne.symm hjk)] at hj
    exact (h.2 j e' hj).kept (o _ (by show base + j ≠ base + k; omega))
theorem qs_R_push {w : qm_W} {H H1 : Heap} {e : qm_E} (h : qs_R xa base cA D w H) (he : va_at D qx_cl (H.size, qs_te xa base cA e) H1) (z : H1.size = H.size + 1) (o : ∀ q : Nat, q < H.size → H1[q]? = H[q]?) : qs_R xa base cA D (w ++ [e]) H1 := by
  refine ⟨by rw [z, h.1, List.length_append]; simp; omega, fun j e' hj => ?_⟩
  by_cases hl : j < w.length
  · rw [List.getElem?_append_left hl] at hj
    exact (h.2 j e' hj).kept (o _ (by show base + j < H.size; rw [h.1]; omega))
  · rw [List.getElem?_append_right (by omega)] at hj
    have hz : j - w.length < 1 := (List.getElem?_eq_some_iff.mp hj).1
    have hj0 : j = w.length := by omega
    subst hj0
    rw [Nat.sub_self] at hj
    cases hj
    rw [← h.1]
    exact he
theorem qs_P1 {w : qm_W} {H : Heap} {k : Nat} {e : qm_E} (h : qs_R xa base cA D w H) (hk : w[k]? = some e) : va_P D qx_cl [(base + k, qs_te xa base cA e)] H := by
  intro j q hj
  have hz : j < 1 := (List.getElem?_eq_some_iff.mp hj).1
  have : j = 0 := by omega
  subst this
  cases hj
  exact h.2 k e hk
theorem qs_S_push {H0 H H1 : Heap} {locs : List Loc} (h : va_S (qs_A base) H0 H locs) (z : H1.size = H.size + 1) (o : ∀ q : Nat, q < H.size → H1[q]? = H[q]?) : va_S (qs_A base) H0 H1 locs :=
  ⟨Nat.le_trans h.1 (by omega), fun q h1 h2 => (o q (Nat.lt_of_lt_of_le h1 h.1)).trans (h.2.1 q h1 h2), h.2.2⟩
theorem qs_ad_hi {a : Nat} (h : 16 ≤ a) : qs_ad xa base a = base + (a - 16) := if_neg (by omega)
theorem qs_ad_lo {a : Nat} (h : a < 16) : qs_ad xa base a = xa a := if_pos h
theorem qs_cell_hi {w : qm_W} {a : Nat} (h : 16 ≤ a) : qm_cell X w a = w[a - 16]? := if_neg (by omega)
theorem qs_cell_lo {w : qm_W} {a : Nat} (h : a < 16) : qm_cell X w a = X.1 a := if_pos h
theorem qs_vin {i : Int32} {n : Nat} (h : qm_in i n = true) : vp_in i n := by
  unfold qm_in at h
  rw [Bool.and_eq_true, decide_eq_true_eq, decide_eq_true_eq] at h
  exact fun q => q.elim h.1 (fun q => by omega)
theorem qs_X_moved {u U : State} {H : Heap} (hW : u.WarmedH U.vm) (h : qs_X xa base X u H) : qs_X xa base X U H := by
  obtain ⟨h1, h2, h3, h4, h5, h6⟩ := h
  refine ⟨fun j n ty f hj e => va_T.moved hW.alike (h1 j n ty f hj e), fun j ci fs hj e => ?_, fun q hq => va_Z.moved hW.alike (h3 q hq), fun q hq => (h4 q hq).warm hW, fun w hw => ?_, va_AO.moved hW.alike h6⟩
  · obtain ⟨a1, a2, a3, a4⟩ := h2 j ci fs hj e
    exact ⟨a1, a2.moved hW.alike, fun v hv => (a3 v hv).moved hW.alike, fun v hv => (a4 v hv).moved hW.alike⟩
  · exact qx_nest_warm hW w hw (h5 w hw)
theorem qs_X_same {u U : State} {H : Heap} (hv : u.vm = U.vm) (h : qs_X xa base X u H) : qs_X xa base X U H := by
  have hal : u.vm.Alike U.vm := by rw [hv]; exact Vm.Alike.refl _
  obtain ⟨h1, h2, h3, h4, h5, h6⟩ := h
  refine ⟨fun j n ty f hj e => va_T.moved hal (h1 j n ty f hj e), fun j ci fs hj e => ?_, fun q hq => va_Z.moved hal (h3 q hq), fun q hq => vk_R.same hv.symm (h4 q hq), fun w hw => qx_nest_same hv w hw (h5 w hw), va_AO.moved hal h6⟩
  obtain ⟨a1, a2, a3, a4⟩ := h2 j ci fs hj e
  exact ⟨a1, a2.moved hal, fun v hv => (a3 v hv).moved hal, fun v hv => (a4 v hv).moved hal⟩
theorem qs_X_kept {U : State} {H H1 : Heap} (hq : ∀ a : Nat, a < H.size → ¬ qs_A base a → H1[a]? = H[a]?) (h : qs_X xa base X U H) : qs_X xa base X U H1 := by
  obtain ⟨h1, h2, h3, h4, h5, h6⟩ := h
  refine ⟨fun j n ty f hj e => va_T.kept (h1 j n ty f hj e) hq, fun j ci fs hj e => ?_, fun q hh => va_Z.kept (h3 q hh) hq, h4, h5, h6⟩
  obtain ⟨a1, a2, a3, a4⟩ := h2 j ci fs hj e
  exact ⟨a1, a2.kept hq, fun v hv => (a3 v hv).kept hq, fun v hv => (a4 v hv).kept hq⟩
theorem qs_blind {w : qm_W} {av : List Value} : FrameBlind (va_Pc av (qs_B xa base cA D X w)) := by
  intro a U g mk h
  obtain ⟨h1, h2, h3, h4⟩ := h
  exact ⟨h1, h2, va_K.moved (u := U) (U := U.calling g mk a) (Vm.Alike.refl U.vm) h3, qs_X_same (u := U) (U := U.calling g mk a) rfl h4⟩
end QS1
end
section
/-! one instruction of the small machine is one of the machine -/
def qs_link (o i : Nat) (y : MethodName) (nest : Bool) : Prop := if nest then ∃ host, Cond.methodLinkNest (qx_on o) i y host ∈ qx_nest else Cond.methodLink (qx_on o) i y ∈ lw_tbl
def qs_nargs (y : MethodName) (n : Nat) : Prop := y.cls ≠ "java/lang/invoke/MethodHandle" ∧ y.cls ≠ "java/lang/invoke/VarHandle" ∧ (parseMethodDescriptor y.desc).map (fun d => d.parameters.length) = some n
def qs_off : Instr → Int
  | .ifCond _ off => off
  | .if_icmp _ off => off
  | _ => 0
/-- what the tables say of an entry's number -/
def qs_ok (o : Nat) (q : qm_I) : Prop := match q.2.1 with
  | .getfield i => q.2.2.2.2.2.1 = 9 ∨ (q.2.2.2.2.2.1 = 0 ∧ q.2.2.2.1 = 13 ∧ ((q.2.2.2.2.1 = 0 ∧ Cond.fieldLink (qx_on o) i "java/lang/String" "value" "[B" ∈ lw_tbl) ∨ (q.2.2.2.2.1 = 1 ∧ Cond.fieldLink (qx_on o) i "java/lang/String" "coder" "B" ∈ lw_tbl))) ∨
      (q.2.2.2.1 < 13 ∧ ∃ C N, qx_cl[q.2.2.2.1]? = some (C, qx_T q.2.2.2.1, N) ∧ q.2.2.2.2.1 < N ∧ ((q.2.2.2.2.2.1 = 0 ∧ Cond.fieldLink (qx_on o) i (qx_T q.2.2.2.1 q.2.2.2.2.1).1 (qx_T q.2.2.2.1 q.2.2.2.2.1).2.1 (qx_T q.2.2.2.1 q.2.2.2.2.1).2.2.1 ∈ lw_tbl) ∨ ∃ host, Cond.fieldLinkNest (qx_on o) i (qx_T q.2.2.2.1 q.2.2.2.2.1).1 (qx_T q.2.2.2.1 q.2.2.2.2.1).2.1 (qx_T q.2.2.2.1 q.2.2.2.2.1).2.2.1 host ∈ qx_nest))
  | .putfield i => ¬ q.2.2.2.2.2.1 = 0 ∨ ((qx_oc o = q.2.2.2.1 → (qx_T q.2.2.2.1 q.2.2.2.2.1).1 = qx_on o) ∧ ∃ C N, qx_cl[q.2.2.2.1]? = some (C, qx_T q.2.2.2.1, N) ∧ q.2.2.2.2.1 < N ∧ Cond.fieldLink (qx_on o) i (qx_T q.2.2.2.1 q.2.2.2.2.1).1 (qx_T q.2.2.2.1 q.2.2.2.2.1).2.1 (qx_T q.2.2.2.1 q.2.2.2.2.1).2.2.1 ∈ lw_tbl)
  | .getstatic i => (q.2.2.2.2.2.1 = 0 → ∃ C n d, (C, n, d, some q.2.2.2.2.2.2) ∈ qx_sta ∧ Cond.fieldLink (qx_on o) i C n d ∈ lw_tbl) ∧ (q.2.2.2.2.2.1 = 1 → ∃ C n d, (C, n, d, none) ∈ qx_sta ∧ Cond.fieldLink (qx_on o) i C n d ∈ lw_tbl)
  | .ldc i => (q.2.2.2.2.2.1 = 0 → ∃ v, q.2.2.2.2.2.2 = .int v ∧ Cond.constant (qx_on o) i v ∈ lw_tbl) ∧ (q.2.2.2.2.2.1 = 1 → ∃ tx j, q.2.2.2.2.2.2 = .ref j ∧ j < 16 ∧ (qx_on o, i, tx, j) ∈ qx_str)
  | .ldc_w i => q.2.2.2.2.2.1 = 0 → ∃ v, q.2.2.2.2.2.2 = .int v ∧ Cond.constant (qx_on o) i v ∈ lw_tbl
  | .ldc2_w i => q.2.2.2.2.2.1 = 2 → ∃ v, q.2.2.2.2.2.2 = .long v ∧ Cond.constantLong (qx_on o) i v ∈ lw_tbl
  | .new i => q.2.2.2.2.2.1 = 0 → ∃ C N, qx_cl[q.2.2.2.1]? = some (C, qx_T q.2.2.2.1, N) ∧ Cond.classLink (qx_on o) i C ∈ lw_tbl ∧ Cond.instantiable C N ∈ lw_tbl ∧ Cond.initialized C ∈ lw_tbl
  | .anewarray i => q.2.2.2.2.2.1 = 0 → q.2.2.2.1 = 7 → Cond.classLink (qx_on o) i "OneRoof$Custom" ∈ lw_tbl
  | .invokevirtual i => (q.2.2.2.2.2.1 = 0 ∨ q.2.2.2.2.2.1 = 1) → 0 < q.2.2.2.1 ∧ ∃ x, qm_ent q.2.2.2.1 = some x ∧ qs_nargs x.2.1 q.2.2.2.2.1 ∧ qs_link o i x.2.1 (decide (q.2.2.2.2.2.1 = 1)) ∧ Cond.instanceMethod x.2.1 ∈ lw_tbl ∧ Cond.selects x.2.1.cls x.2.1 x.2.1 ∈ lw_tbl ∧ Cond.initialized x.2.1.cls ∈ lw_tbl ∧ ((q.2.2.2.2.2.2 = .ref 13 ∧ x.2.1.cls = "java/lang/String") ∨ ∃ ci N, q.2.2.2.2.2.2 = .ref ci ∧ ci < 13 ∧ qx_cl[ci]? = some (x.2.1.cls, qx_T ci, N))
  | .invokestatic i => ((q.2.2.2.2.2.1 = 2 ∨ q.2.2.2.2.2.1 = 3) → 0 < q.2.2.2.1 ∧ ∃ x, qm_ent q.2.2.2.1 = some x ∧ qs_nargs x.2.1 q.2.2.2.2.1 ∧ qs_link o i x.2.1 (decide (q.2.2.2.2.2.1 = 3)) ∧ Cond.static x.2.1 ∈ lw_tbl ∧ Cond.initialized x.2.1.cls ∈ lw_tbl) ∧ (q.2.2.2.2.2.1 = 7 → Cond.methodLink (qx_on o) i arraycopyName ∈ lw_tbl)
  | .invokespecial i => (q.2.2.2.2.2.1 = 6 → Cond.methodLink (qx_on o) i objectInit ∈ lw_tbl) ∧ ((q.2.2.2.2.2.1 = 4 ∨ q.2.2.2.2.2.1 = 5) → 0 < q.2.2.2.1 ∧ ∃ x, qm_ent q.2.2.2.1 = some x ∧ qs_nargs x.2.1 q.2.2.2.2.1 ∧ qs_link o i x.2.1 (decide (q.2.2.2.2.2.1 = 5)) ∧ Cond.instanceMethod x.2.1 ∈ lw_tbl ∧ Cond.initialized x.2.1.cls ∈ lw_tbl ∧ x.2.1.name = "<init>" ∧ x.2.2.2.2.1 = none)
  | _ => True
/-- what the tables say of all methods and classes -/
def qs_all : Prop :=
  (∀ (ci : Nat) (r : vw_C), qx_cl[ci]? = some r → r.2.1 = qx_T ci ∧ (∀ w ∈ u_ws r.1 r.2.1 r.2.2, w ∈ lw_tbl) ∧ (∀ k, k < r.2.2 → parseFieldDescriptor (r.2.1 k).2.2.1 = some (qx_ty ci k)) ∧ (∀ a, a < r.2.2 → ∀ b, b < r.2.2 → a ≠ b → (r.2.1 a).2.1 ≠ (r.2.1 b).2.1)) ∧
  (Cond.arrayClass .int ∈ lw_tbl ∧ Cond.arrayClass .long ∈ lw_tbl ∧ Cond.arrayClass .boolean ∈ lw_tbl ∧ Cond.native arraycopyName ∈ lw_tbl ∧ Cond.static arraycopyName ∈ lw_tbl ∧ Cond.initialized "java/lang/System" ∈ lw_tbl ∧ Cond.instanceMethod objectInit ∈ lw_tbl ∧ Cond.code objectInit ⟨#[0xb1]⟩ 1 none ∈ lw_tbl) ∧
  (∀ (k : Nat) (x : qs_Ent), 0 < k → qm_ent k = some x → plainFor x.2.1 = true ∧ Cond.code x.2.1 x.2.2.1 x.2.2.2.1 x.2.2.2.2.1 ∈ lw_tbl ∧ x.2.1.cls = qx_on x.1 ∧ x.2.2.2.1 ≤ 30 ∧ ∀ q ∈ x.2.2.2.2.2.2.2, decode x.2.2.1 q.1 = .ok (q.2.1, q.2.2.1) ∧ 0 ≤ (q.1 : Int) + qs_off q.2.1 ∧ qs_ok x.1 q)
theorem qs_u_in {C : String} {T : u_T} {N : Nat} (h : ∀ w ∈ u_ws C T N, w ∈ lw_tbl) : ∀ w ∈ u_ws C T N, w ∈ qs_TB := by
  intro w hw
  refine qs_in (h w hw) ?_
  obtain ⟨k, -, rfl⟩ := List.mem_map.mp hw
  unfold u_lay
  split <;> rfl
section QS2
variable {xa : Nat → Nat} {base : Nat} {cA : FieldType → ClassId} {D : va_G} {X : qm_X}
variable {p : Program} {l : Launch} {e : Env} {R : Room} {s : State} {m : MethodId} {args : Array Value} {below : List Frame} {meth : Method} {c : Code} {Z : State → Prop} {cc : ByteArray} {nL o : Nat}
/-- the machine stands at a state of the small one -/
def qs_P (xa : Nat → Nat) (base : Nat) (cA : FieldType → ClassId) (D : va_G) (p : Program) (l : Launch) (e : Env) (R : Room) (s : State) (m : MethodId) (args : Array Value) (below : List Frame) (meth : Method) (c : Code) (Z : State → Prop) (nL : Nat) (t : qm_S) : Prop :=
  ∀ (H : Heap) (locs : List Loc) (ls : Array Slot), lv_has ls nL (qs_tl xa base t.2.1) → qs_R xa base cA D t.2.2.2.1 H → va_S (qs_A base) s.heap H locs → W p l e R s m args below meth c H locs t.2.2.2.2.1 t.2.2.2.2.2 Z (F0 m t.1 ls (t.2.2.1.map (qs_tv xa base)))
theorem qs_jump {pc : Nat} {off : Int} {ls : qm_L} {st : List Value} {w : qm_W} {cn n : Nat} {f : qm_S} (h : qm_jump pc off ls st w cn n = some f) : ∃ t : Nat, (pc : Int) + off = (t : Int) ∧ f = (t, ls, st, w, cn, n) := by
  unfold qm_jump qm_to qm_go at h
  split at h
  · rename_i h0
    exact ⟨((pc : Int) + off).toNat, by omega, (Option.some.inj h).symm⟩
  · cases h
theorem qs_icmp {lst : Array Slot} (hx : p.tables.exec = Jvm.exec) (hb : c.code = cc) {k : ClassFile.Cond} {x y : Int32} {off : Int} {pc tgt : Nat} {rest : List Value} {H : Heap} {locs : List Loc} {cn n : Nat} (hdg : decode cc pc = .ok (.if_icmp k off, 3)) (ht : (pc : Int) + off = (tgt : Int))
    (kt : qm_cond k x y = true → W p l e R s m args below meth c H locs cn n Z (F0 m tgt lst rest)) (kf : qm_cond k x y = false → W p l e R s m args below meth c H locs cn n Z (F0 m (pc + 3) lst rest)) : W p l e R s m args below meth c H locs cn n Z (F0 m pc lst (.int y :: .int x :: rest)) := by
  cases k with
  | eq => exact lv_icmp_eq hx hb hdg ht (fun h => kt (decide_eq_true h)) (fun h => kf (decide_eq_false h))
  | ne => exact lv_icmp_ne hx hb hdg ht (fun h => kt (decide_eq_true h)) (fun h => kf (decide_eq_false (fun g => g h)))
  | lt => exact lv_icmp_lt hx hb hdg ht (fun h => kt (decide_eq_true h)) (fun h => kf (decide_eq_false h))
  | ge => exact lv_icmp_ge hx hb hdg ht (fun h => kt (decide_eq_true h)) (fun h => kf (decide_eq_false h))
  | gt => exact lv_icmp_gt hx hb hdg ht (fun h => kt (decide_eq_true h)) (fun h => kf (decide_eq_false h))
  | le => exact lv_icmp_le hx hb hdg ht (fun h => kt (decide_eq_true h)) (fun h => kf (decide_eq_false h))
theorem qs_icond {lst : Array Slot} (hx : p.tables.exec = Jvm.exec) (hb : c.code = cc) {k : ClassFile.Cond} {x : Int32} {off : Int} {pc tgt : Nat} {rest : List Value} {H : Heap} {locs : List Loc} {cn n : Nat} (hdg : decode cc pc = .ok (.ifCond k off, 3)) (ht : (pc : Int) + off = (tgt : Int))
    (kt : qm_cond k x 0 = true → W p l e R s m args below meth c H locs cn n Z (F0 m tgt lst rest)) (kf : qm_cond k x 0 = false → W p l e R s m args below meth c H locs cn n Z (F0 m (pc + 3) lst rest)) : W p l e R s m args below meth c H locs cn n Z (F0 m pc lst (.int x :: rest)) := by
  cases k with
  | eq => exact lv_if_eq hx hb hdg ht (fun h => kt (decide_eq_true h)) (fun h => kf (decide_eq_false h))
  | ne => exact lv_if_ne hx hb hdg ht (fun h => kt (decide_eq_true h)) (fun h => kf (decide_eq_false (fun g => g h)))
  | lt => exact lv_if_lt hx hb hdg ht (fun h => kt (decide_eq_true h)) (fun h => kf (decide_eq_false h))
  | ge => exact lv_if_ge hx hb hdg ht (fun h => kt (decide_eq_true h)) (fun h => kf (decide_eq_false h))
  | gt => exact lv_if_gt hx hb hdg ht (fun h => kt (decide_eq_true h)) (fun h => kf (decide_eq_false h))
  | le => exact lv_if_le hx hb hdg ht (fun h => kt (decide_eq_true h)) (fun h => kf (decide_eq_false h))
end QS2
end
section
section QS3
variable {p : Program} {l : Launch} {e : Env} {R : Room} {s : State} {m : MethodId} {args : Array Value} {below : List Frame} {meth : Method} {c : Code} {H : Heap} {locs : List Loc} {cells slots : Nat} {Q : State → Prop}
variable {cc : ByteArray} {pc : Nat} {ls : Array Slot} {rest : List Value} {D : va_G} {cl : List vw_C} {a : Nat} {tys : List (ClassId × FieldType)}
theorem qs_put (hexec : p.tables.exec = Jvm.exec) (hb : c.code = cc) {own C : String} {T : u_T} {N ci index : Nat} {Ts : List Cond} (hts : ∀ w ∈ Ts, w.before args s = true) (hin : ∀ w ∈ u_ws C T N, w ∈ Ts) (ty0 : Nat → FieldType) (hty : ∀ k, k < N → parseFieldDescriptor (T k).2.2.1 = some (ty0 k)) (hnm : ∀ a, a < N → ∀ b, b < N → a ≠ b → (T a).2.1 ≠ (T b).2.1) (hown : s.vm.findClass own = some m.cls) (hK : va_K D cl tys s) {fs : List Value} (hat : va_at D cl (a, .inr (ci, fs)) H) (hc : cl[ci]? = some (C, T, N)) {k : Nat} (hk : k < N) (hlink : (Cond.fieldLink own index (T k).1 (T k).2.1 (T k).2.2.1).before args s = true) (hfin : (T k).2.2.2 = false) {ty : FieldType} {v : Value} (hd : parseFieldDescriptor (T k).2.2.1 = some ty) (hn : narrow ty v = v) (hfit : fits ty v = true) (hl : k < fs.length)
    (hdg : decode cc pc = .ok (.putfield index, 3)) (kk : ∀ H1 : Heap, va_at D cl (a, .inr (ci, fs.set k v)) H1 → H1.size = H.size → (∀ q : Nat, q ≠ a → H1[q]? = H[q]?) → W p l e R s m args below meth c H1 (locs ++ [⟨a, D.2 ci k⟩]) cells slots Q (F0 m (pc + 3) ls rest)) : W p l e R s m args below meth c H locs cells slots Q (F0 m pc ls (v :: .ref a :: rest)) := by
  have hap := va_apart (own := own) hts hin ty0 hty hnm hK hc
  obtain ⟨r, h1, cell, q1, q2, q3, q4⟩ := hat
  have hr : r = (C, T, N) := Option.some.inj (h1.symm.trans hc)
  subst hr
  obtain ⟨hS, hfc, kC, hkC, hkind⟩ := hK.1 ci _ hc
  obtain ⟨cf, kf, fi, f, hi, hsl⟩ := hS k hk
  have hlay := hts _ (hin _ (u_in_lay hk))
  unfold u_lay at hlay
  rw [if_neg (by rw [hfin]; decide)] at hlay
  have hst := (u_facts hfc hkC (u_lays hts hin hk) hi).1
  have h6 := u_store hfc hkC hkind hlay hi hd hn hfit
  refine W.putK hexec hb (f := f) ⟨hown, hlink, ⟨_, _, _, hi⟩, hst⟩ (by rw [q2]; exact h6) q1 q3 (by rw [hsl]; exact k2_hasslot (q4 k hk)) rfl rfl hdg fun H' e1 e2 e3 => ?_
  rw [hsl] at e1 ⊢
  exact kk H' ⟨_, hc, t_OB.to (V := updV (vp_V fs) k v) ⟨_, e1, q2, q3, t_set q4 hap hk v⟩ (fun j _ => vp_updV_set hl v j)⟩ e2 e3
theorem qs_putF (hexec : p.tables.exec = Jvm.exec) (hb : c.code = cc) {own C : String} {T : u_T} {N ci index : Nat} {Ts : List Cond} (hts : ∀ w ∈ Ts, w.before args s = true) (hin : ∀ w ∈ u_ws C T N, w ∈ Ts) (ty0 : Nat → FieldType) (hty : ∀ k, k < N → parseFieldDescriptor (T k).2.2.1 = some (ty0 k)) (hnm : ∀ a, a < N → ∀ b, b < N → a ≠ b → (T a).2.1 ≠ (T b).2.1) (hown : s.vm.findClass own = some m.cls) (hK : va_K D cl tys s) {fs : List Value} (hat : va_at D cl (a, .inr (ci, fs)) H) (hc : cl[ci]? = some (C, T, N)) {k : Nat} (hk : k < N) (hlink : (Cond.fieldLink own index (T k).1 (T k).2.1 (T k).2.2.1).before args s = true) (hfin : (T k).2.2.2 = true) (hin2 : meth.name = "<init>") (hdecl : (T k).1 = own) {ty : FieldType} {v : Value} (hd : parseFieldDescriptor (T k).2.2.1 = some ty) (hn : narrow ty v = v) (hfit : fits ty v = true) (hl : k < fs.length)
    (hdg : decode cc pc = .ok (.putfield index, 3)) (kk : ∀ H1 : Heap, va_at D cl (a, .inr (ci, fs.set k v)) H1 → H1.size = H.size → (∀ q : Nat, q ≠ a → H1[q]? = H[q]?) → W p l e R s m args below meth c H1 (locs ++ [⟨a, D.2 ci k⟩]) cells slots Q (F0 m (pc + 3) ls rest)) : W p l e R s m args below meth c H locs cells slots Q (F0 m pc ls (v :: .ref a :: rest)) := by
  have hap := va_apart (own := own) hts hin ty0 hty hnm hK hc
  obtain ⟨r, h1, cell, q1, q2, q3, q4⟩ := hat
  have hr : r = (C, T, N) := Option.some.inj (h1.symm.trans hc)
  subst hr
  obtain ⟨hS, hfc, kC, hkC, hkind⟩ := hK.1 ci _ hc
  obtain ⟨cf, kf, fi, f, hi, hsl⟩ := hS k hk
  have hlay := hts _ (hin _ (u_in_lay hk))
  unfold u_lay at hlay
  rw [if_pos hfin] at hlay
  have hst := (u_facts hfc hkC (u_lays hts hin hk) hi).1
  have hcf : m.cls = cf := by
    obtain ⟨_, _, c', _, _, _, -, -, hf', -, -, -, hown2, -⟩ := Cond.laysFinal_spec hlay
    have e1 : c' = cf := by have := hi.symm.trans hf'; simp at this; exact this.1.symm
    rw [hdecl] at hown2
    rw [← e1]; exact Option.some.inj (hown.symm.trans hown2)
  have h6 := u_fits hfc hkC hkind (Or.inr hlay) hi hd hn hfit
  refine W.putFinK hexec hb hown hlink hi hst hcf hin2 (by rw [q2]; exact h6) q1 q3 (by rw [hsl]; exact k2_hasslot (q4 k hk)) rfl rfl hdg fun H' e1 e2 e3 => ?_
  rw [hsl] at e1 ⊢
  exact kk H' ⟨_, hc, t_OB.to (V := updV (vp_V fs) k v) ⟨_, e1, q2, q3, t_set q4 hap hk v⟩ (fun j _ => vp_updV_set hl v j)⟩ e2 e3
theorem qs_iast (hexec : p.tables.exec = Jvm.exec) (hb : c.code = cc) {cA : ClassId} {n : Nat} {f : Nat → Int32} (hA : ArrOfT s cA .int) (hat : H[a]? = some (vp_cell cA (n, .inl f))) {i : Int32} {x : Int32} (hin : vp_in i n) (hdg : decode cc pc = .ok (.iastore, 1))
    (kk : ∀ H1 : Heap, H1[a]? = some (vp_cell cA (n, .inl (upd f i.toNatClampNeg x))) → H1.size = H.size → (∀ q : Nat, q ≠ a → H1[q]? = H[q]?) → W p l e R s m args below meth c H1 (locs ++ [⟨a, i.toNatClampNeg⟩]) cells slots Q (F0 m (pc + 1) ls rest)) : W p l e R s m args below meth c H locs cells slots Q (F0 m pc ls (.int x :: .int i :: .ref a :: rest)) := by
  refine W.iast hexec hb hat (hA n (fun j => .int (f j))) (fun q => by cases q) (by show ¬ (i < 0 ∨ (arrV _ _ _).slots.size ≤ _); rw [arrV_size]; exact hin) rfl rfl hdg fun H1 e z oq => ?_
  refine kk H1 ?_ z oq
  rw [e]
  rw [vp_cell_i, vp_cell_i, arrV_store]
  congr 2
  funext q
  by_cases hq : q = i.toNatClampNeg
  · subst hq
    simp [updV, upd]
    try rfl
  · simp [updV, upd, hq]
theorem qs_last (hexec : p.tables.exec = Jvm.exec) (hb : c.code = cc) {cA : ClassId} {n : Nat} {f : Nat → Int64} (hA : ArrOfT s cA .long) (hat : H[a]? = some (vp_cell cA (n, .inr (.inl f)))) {i : Int32} {x : Int64} (hin : vp_in i n) (hdg : decode cc pc = .ok (.lastore, 1))
    (kk : ∀ H1 : Heap, H1[a]? = some (vp_cell cA (n, .inr (.inl (vp_updL f i.toNatClampNeg x)))) → H1.size = H.size → (∀ q : Nat, q ≠ a → H1[q]? = H[q]?) → W p l e R s m args below meth c H1 (locs ++ [⟨a, i.toNatClampNeg⟩]) cells slots Q (F0 m (pc + 1) ls rest)) : W p l e R s m args below meth c H locs cells slots Q (F0 m pc ls (.long x :: .int i :: .ref a :: rest)) := by
  refine W.last hexec hb hat (hA n (fun j => .long (f j))) (fun q => by cases q) (by show ¬ (i < 0 ∨ (arrV _ _ _).slots.size ≤ _); rw [arrV_size]; exact hin) rfl rfl hdg fun H1 e z oq => ?_
  refine kk H1 ?_ z oq
  rw [e]
  rw [vp_cell_l, vp_cell_l, arrV_store]
  congr 2
  funext q
  by_cases hq : q = i.toNatClampNeg
  · subst hq
    simp [updV, vp_updL]
    try rfl
  · simp [updV, vp_updL, hq]
theorem qs_zast (hexec : p.tables.exec = Jvm.exec) (hb : c.code = cc) {cA : ClassId} {n : Nat} {f : Nat → Int32} (hA : ArrOfT s cA .boolean) (hat : H[a]? = some (vp_cell cA (n, .inl f))) {i : Int32} {x : Int32} (hin : vp_in i n) (hdg : decode cc pc = .ok (.bastore, 1))
    (kk : ∀ H1 : Heap, H1[a]? = some (vp_cell cA (n, .inl (upd f i.toNatClampNeg (vp_nar .boolean x)))) → H1.size = H.size → (∀ q : Nat, q ≠ a → H1[q]? = H[q]?) → W p l e R s m args below meth c H1 (locs ++ [⟨a, i.toNatClampNeg⟩]) cells slots Q (F0 m (pc + 1) ls rest)) : W p l e R s m args below meth c H locs cells slots Q (F0 m pc ls (.int x :: .int i :: .ref a :: rest)) := by
  refine W.zast hexec hb hat (hA n (fun j => .int (f j))) (fun q => by cases q) (by show ¬ (i < 0 ∨ (arrV _ _ _).slots.size ≤ _); rw [arrV_size]; exact hin) rfl rfl hdg fun H1 e z oq => ?_
  refine kk H1 ?_ z oq
  rw [e]
  rw [vp_cell_i, vp_cell_i, arrV_store]
  congr 2
  funext q
  by_cases hq : q = i.toNatClampNeg
  · subst hq
    simp [updV, upd, vp_nar]
    try rfl
  · simp [updV, upd, vp_nar, hq]
theorem qs_aast (hexec : p.tables.exec = Jvm.exec) (hb : c.code = cc) {cA : ClassId} {n v ci : Nat} {r : vw_C} {f : Nat → Option Nat} {vs : List Value} (hK : va_K D cl tys s) (hRA : va_RA s cA (.object r.1)) (hat : H[a]? = some (vp_cell cA (n, .inr (.inr (.inr (.inr f)))))) (hv : va_at D cl (v, .inr (ci, vs)) H) (hc : cl[ci]? = some r) {i : Int32} (hin : vp_in i n) (hdg : decode cc pc = .ok (.aastore, 1))
    (kk : ∀ H1 : Heap, H1[a]? = some (vp_cell cA (n, .inr (.inr (.inr (.inr (va_up f i.toNatClampNeg (some v))))))) → H1.size = H.size → (∀ q : Nat, q ≠ a → H1[q]? = H[q]?) → W p l e R s m args below meth c H1 (locs ++ [⟨a, i.toNatClampNeg⟩]) cells slots Q (F0 m (pc + 1) ls rest)) : W p l e R s m args below meth c H locs cells slots Q (F0 m pc ls (.ref v :: .int i :: .ref a :: rest)) := by
  have hlt : i.toNatClampNeg < n := Nat.not_le.mp fun q => hin (Or.inr q)
  have h0 : ¬ i < 0 := fun q => hin (Or.inl q)
  obtain ⟨r', hr', cellV, g1, g2, g3, -⟩ := hv
  have hcls := (hK.1 ci r hc).2
  obtain ⟨kA, comp, k1, k2, k3, -⟩ := hRA
  have hcomp : comp = D.1 ci := Option.some.inj (k3.symm.trans hcls.1)
  subst hcomp
  obtain ⟨kC, hkC, -⟩ := hcls.2
  refine W.aast hexec hb hat (fun q h => by cases h) (fun h => by cases h) k1 k2 rfl hkC ⟨h0, by show _ < (arrV _ _ _).slots.size; rw [arrV_size]; exact hlt⟩ g1 (fun q h => by rw [g3] at h; cases h) (by rw [g2]; exact hkC) (by rw [g2]; exact va_assign hcls) rfl rfl hdg fun H1 e z oq => ?_
  refine kk H1 ?_ z oq
  rw [e]
  rw [vp_cell_q, vp_cell_q, arrV_store]
  congr 2
  funext q
  by_cases hq : q = i.toNatClampNeg
  · subst hq
    simp [updV, va_up, va_rf]
  · simp [updV, va_up, hq]
theorem qs_new (hexec : p.tables.exec = Jvm.exec) (hb : c.code = cc) {own C : String} {T : u_T} {N ci index : Nat} {Ts : List Cond} (hts : ∀ w ∈ Ts, w.before args s = true) (hin : ∀ w ∈ u_ws C T N, w ∈ Ts) (ty : Nat → FieldType) (hty : ∀ k, k < N → parseFieldDescriptor (T k).2.2.1 = some (ty k)) (hown : s.vm.findClass own = some m.cls) (hcl : (Cond.classLink own index C).before args s = true) (hinst : (Cond.instantiable C N).before args s = true) (hini : (Cond.initialized C).before args s = true)
    (hK : va_K D cl tys s) (hc : cl[ci]? = some (C, T, N)) {fs : List Value} (hfs : ∀ j, j < N → defaultValue (ty j) = vp_V fs j) (hcells : cells + 1 ≤ R.cells) (hslots : slots + N ≤ R.slots) (hdg : decode cc pc = .ok (.new index, 3))
    (kk : ∀ H1 : Heap, va_at D cl (H.size, .inr (ci, fs)) H1 → H1.size = H.size + 1 → (∀ q : Nat, q < H.size → H1[q]? = H[q]?) →
      W p l e R s m args below meth c H1 locs (cells + 1) (slots + N) Q (F0 m (pc + 3) ls (.ref H.size :: rest))) : W p l e R s m args below meth c H locs cells slots Q (F0 m pc ls rest) := by
  have hKn := hK.1 ci _ hc
  refine W.newcK hexec hb hown hcl hinst hini rfl hdg hcells hslots hKn.2.1 rfl fun H1 kC hkC e1 z1 o1 => ?_
  exact kk H1 ⟨_, hc, (u_born ty hts hin hKn hkC e1 hty).to hfs⟩ z1 o1
theorem qs_newq (hexec : p.tables.exec = Jvm.exec) (hb : c.code = cc) {own C : String} {index : Nat} (hown : s.vm.findClass own = some m.cls) (hclink : (Cond.classLink own index C).before args s = true) (hover : va_AO C s)
    {n : Int32} {N' : Nat} (hn : ¬ n < 0) (hN : n.toNatClampNeg = N') (hbytes : N' * 4 ≤ 536870912) (hcells : cells + 1 ≤ R.cells) (hslots : slots + N' ≤ R.slots) (hdg : decode cc pc = .ok (.anewarray index, 3))
    (kk : ∀ (cA : ClassId) (H1 : Heap), s.vm.findClass ("[" ++ (FieldType.object C).toString) = some cA → H1[H.size]? = some (vp_cell cA (N', .inr (.inr (.inr (.inr (fun _ => none)))))) → H1.size = H.size + 1 → (∀ q : Nat, q < H.size → H1[q]? = H[q]?) →
      W p l e R s m args below meth c H1 locs (cells + 1) (slots + N') Q (F0 m (pc + 3) ls (.ref H.size :: rest))) : W p l e R s m args below meth c H locs cells slots Q (F0 m pc ls (.int n :: rest)) := by
  subst hN
  refine W.anew hexec hb hown hclink (va_AO.use hover) rfl hdg rfl hn hbytes hcells hslots fun cA kA comp f1 f2 f3 f4 => ?_
  generalize hH1 : H.push ({ cls := cA, slots := Array.replicate n.toNatClampNeg .null, vm := .none } : Cell) = H1
  have z1 : H1.size = H.size + 1 := by rw [← hH1, Array.size_push]
  have e1 : H1[H.size]? = some (arrV cA n.toNatClampNeg (fun _ => .null)) := by rw [← hH1, Array.getElem?_push_size, ← arrV_new]
  have o1 : ∀ q : Nat, q < H.size → H1[q]? = H[q]? := fun q hq => by rw [← hH1, Array.getElem?_push, if_neg (Nat.ne_of_lt hq)]
  refine kk cA H1 ?_ ?_ z1 o1
  · first | exact f1 | exact f4
  · rw [vp_cell_q]
    exact e1
theorem qs_copyi (hexec : p.tables.exec = Jvm.exec) (hb : c.code = cc) (hml : c.maxLocals = ls.size) {own : String} {index : Nat} (hown : s.vm.findClass own = some m.cls) (hlink : (Cond.methodLink own index arraycopyName).before args s = true) (hnat : (Cond.native arraycopyName).before args s = true) (hstat : (Cond.static arraycopyName).before args s = true) (hini : (Cond.initialized "java/lang/System").before args s = true)
    {a0 : Nat} {c0 c1 : ClassId} {n0 n1 : Nat} {f g : Nat → Int32} (hA0 : ArrOfT s c0 .int) (hA1 : ArrOfT s c1 .int) (hc0 : H[a0]? = some (vp_cell c0 (n0, .inl f))) (hc1 : H[a]? = some (vp_cell c1 (n1, .inl g)))
    {sp dp n : Int32} (h1 : ¬ sp < 0) (h2 : ¬ dp < 0) (h3 : ¬ n < 0) (h4 : sp.toNatClampNeg + n.toNatClampNeg ≤ n0) (h5 : dp.toNatClampNeg + n.toNatClampNeg ≤ n1)
    (hframes : 1 ≤ R.frames) (hlocals : (rest.map fun v => v.category).sum + (nativeFrameWords "java/lang/System" "arraycopy" 5 + 11) ≤ R.locals) (hdg : decode cc pc = .ok (.invokestatic index, 3))
    (kk : ∀ (H1 : Heap) (L : List Loc), (∀ z ∈ L, z.base = a) → H1[a]? = some (vp_cell c1 (n1, .inl (va_cpy f g sp.toNatClampNeg dp.toNatClampNeg n.toNatClampNeg))) → H1.size = H.size → (∀ q : Nat, q ≠ a → H1[q]? = H[q]?) → W p l e R s m args below meth c H1 (locs ++ L) cells slots Q (F0 m (pc + 3) ls rest)) : W p l e R s m args below meth c H locs cells slots Q (F0 m pc ls (.int n :: .int dp :: .ref a :: .int sp :: .ref a0 :: rest)) := by
  have nn : ∀ z : Int32, ¬ z < 0 → z.toInt = (z.toNatClampNeg : Int) := by
    intro z hz
    have hz0 : (0 : Int) ≤ z.toInt := by
      have := Int32.not_lt.mp hz
      simpa using Int32.le_iff_toInt_le.mp this
    show z.toInt = ((z.toInt.toNat : Nat) : Int)
    omega
  intro T hT X
  obtain ⟨-, k0, hk0, cm0, hkk0⟩ := hA0 n0 (fun j => .int (f j))
  obtain ⟨-, k1, hk1, cm1, hkk1⟩ := hA1 n1 (fun j => .int (g j))
  obtain ⟨vm', X', step⟩ := X.arraycopy hexec hown hlink hnat hstat hini (src := a0) (dst := a) (cs := vp_cell c0 (n0, .inl f)) (cd := vp_cell c1 (n1, .inl g)) (srcPos := sp) (destPos := dp) (n := n) (by rw [hT]; exact hc0) (by rw [hT]; exact hc1)
    (fun _ h => by cases h) (fun _ h => by cases h) (fun h => by cases h) (fun h => by cases h) hk0 hk1 hkk0 hkk1 (by simp [refKind]) h1 h2 h3
    (by rw [nn sp h1, nn n h3]; show ¬ _ > ((arrV c0 n0 (fun j => .int (f j))).slots.size : Int); rw [arrV_size]; omega)
    (by rw [nn dp h2, nn n h3]; show ¬ _ > ((arrV c1 n1 (fun j => .int (g j))).slots.size : Int); rw [arrV_size]; omega)
    (fun vm₁ _ i hi => by
      have e : (vp_cell c0 (n0, .inl f)).slots.getD (sp.toNatClampNeg + i) .null = .int (f (sp.toNatClampNeg + i)) := by
        show (arrV c0 n0 (fun j => .int (f j))).slots.getD _ _ = _
        rw [Array.getD_eq_getD_getElem?, arrV_read _ _ (by omega)]
        rfl
      refine ⟨?_, ?_⟩
      · rw [e]
        rfl
      · rw [e]
        exact trivial)
    (g := F0 m pc ls (.int n :: .int dp :: .ref a :: .int sp :: .ref a0 :: rest)) rfl (by rw [hml]) (rest := rest) rfl (by rw [hb]; exact hdg) hframes (by show 2 * 0 + _ + _ ≤ _; omega)
  have e1 : copied (vp_cell c0 (n0, .inl f)) (vp_cell c1 (n1, .inl g)) sp dp n = vp_cell c1 (n1, .inl (va_cpy f g sp.toNatClampNeg dp.toNatClampNeg n.toNatClampNeg)) := va_copied (fun z => .int z) c0 c1 f g h4
  rw [e1] at X' step
  have hl : a < H.size := (Array.getElem?_eq_some_iff.mp hc1).1
  have hheap : ((T.setVm vm').setCell a (vp_cell c1 (n1, .inl (va_cpy f g sp.toNatClampNeg dp.toNatClampNeg n.toNatClampNeg)))).heap = H.setIfInBounds a (vp_cell c1 (n1, .inl (va_cpy f g sp.toNatClampNeg dp.toNatClampNeg n.toNatClampNeg))) := by rw [← hT]; rfl
  obtain ⟨t, a1, b1⟩ := kk (H.setIfInBounds a (vp_cell c1 (n1, .inl (va_cpy f g sp.toNatClampNeg dp.toNatClampNeg n.toNatClampNeg)))) _ (fun z hz => by
      obtain ⟨y, -, hy⟩ := List.mem_map.mp hz
      rw [← hy]) (by simp [Array.getElem?_setIfInBounds, hl]) (by simp) (fun q hq => by simp [Array.getElem?_setIfInBounds, Ne.symm hq]) _ hheap X'
  exact ⟨t, step t a1, b1⟩
theorem qs_copyl (hexec : p.tables.exec = Jvm.exec) (hb : c.code = cc) (hml : c.maxLocals = ls.size) {own : String} {index : Nat} (hown : s.vm.findClass own = some m.cls) (hlink : (Cond.methodLink own index arraycopyName).before args s = true) (hnat : (Cond.native arraycopyName).before args s = true) (hstat : (Cond.static arraycopyName).before args s = true) (hini : (Cond.initialized "java/lang/System").before args s = true)
    {a0 : Nat} {c0 c1 : ClassId} {n0 n1 : Nat} {f g : Nat → Int64} (hA0 : ArrOfT s c0 .long) (hA1 : ArrOfT s c1 .long) (hc0 : H[a0]? = some (vp_cell c0 (n0, .inr (.inl f)))) (hc1 : H[a]? = some (vp_cell c1 (n1, .inr (.inl g))))
    {sp dp n : Int32} (h1 : ¬ sp < 0) (h2 : ¬ dp < 0) (h3 : ¬ n < 0) (h4 : sp.toNatClampNeg + n.toNatClampNeg ≤ n0) (h5 : dp.toNatClampNeg + n.toNatClampNeg ≤ n1)
    (hframes : 1 ≤ R.frames) (hlocals : (rest.map fun v => v.category).sum + (nativeFrameWords "java/lang/System" "arraycopy" 5 + 11) ≤ R.locals) (hdg : decode cc pc = .ok (.invokestatic index, 3))
    (kk : ∀ (H1 : Heap) (L : List Loc), (∀ z ∈ L, z.base = a) → H1[a]? = some (vp_cell c1 (n1, .inr (.inl (va_cpy f g sp.toNatClampNeg dp.toNatClampNeg n.toNatClampNeg)))) → H1.size = H.size → (∀ q : Nat, q ≠ a → H1[q]? = H[q]?) → W p l e R s m args below meth c H1 (locs ++ L) cells slots Q (F0 m (pc + 3) ls rest)) : W p l e R s m args below meth c H locs cells slots Q (F0 m pc ls (.int n :: .int dp :: .ref a :: .int sp :: .ref a0 :: rest)) := by
  have nn : ∀ z : Int32, ¬ z < 0 → z.toInt = (z.toNatClampNeg : Int) := by
    intro z hz
    have hz0 : (0 : Int) ≤ z.toInt := by
      have := Int32.not_lt.mp hz
      simpa using Int32.le_iff_toInt_le.mp this
    show z.toInt = ((z.toInt.toNat : Nat) : Int)
    omega
  intro T hT X
  obtain ⟨-, k0, hk0, cm0, hkk0⟩ := hA0 n0 (fun j => .long (f j))
  obtain ⟨-, k1, hk1, cm1, hkk1⟩ := hA1 n1 (fun j => .long (g j))
  obtain ⟨vm', X', step⟩ := X.arraycopy hexec hown hlink hnat hstat hini (src := a0) (dst := a) (cs := vp_cell c0 (n0, .inr (.inl f))) (cd := vp_cell c1 (n1, .inr (.inl g))) (srcPos := sp) (destPos := dp) (n := n) (by rw [hT]; exact hc0) (by rw [hT]; exact hc1)
    (fun _ h => by cases h) (fun _ h => by cases h) (fun h => by cases h) (fun h => by cases h) hk0 hk1 hkk0 hkk1 (by simp [refKind]) h1 h2 h3
    (by rw [nn sp h1, nn n h3]; show ¬ _ > ((arrV c0 n0 (fun j => .long (f j))).slots.size : Int); rw [arrV_size]; omega)
    (by rw [nn dp h2, nn n h3]; show ¬ _ > ((arrV c1 n1 (fun j => .long (g j))).slots.size : Int); rw [arrV_size]; omega)
    (fun vm₁ _ i hi => by
      have e : (vp_cell c0 (n0, .inr (.inl f))).slots.getD (sp.toNatClampNeg + i) .null = .long (f (sp.toNatClampNeg + i)) := by
        show (arrV c0 n0 (fun j => .long (f j))).slots.getD _ _ = _
        rw [Array.getD_eq_getD_getElem?, arrV_read _ _ (by omega)]
        rfl
      refine ⟨?_, ?_⟩
      · rw [e]
        rfl
      · rw [e]
        exact trivial)
    (g := F0 m pc ls (.int n :: .int dp :: .ref a :: .int sp :: .ref a0 :: rest)) rfl (by rw [hml]) (rest := rest) rfl (by rw [hb]; exact hdg) hframes (by show 2 * 0 + _ + _ ≤ _; omega)
  have e1 : copied (vp_cell c0 (n0, .inr (.inl f))) (vp_cell c1 (n1, .inr (.inl g))) sp dp n = vp_cell c1 (n1, .inr (.inl (va_cpy f g sp.toNatClampNeg dp.toNatClampNeg n.toNatClampNeg))) := va_copied (fun z => .long z) c0 c1 f g h4
  rw [e1] at X' step
  have hl : a < H.size := (Array.getElem?_eq_some_iff.mp hc1).1
  have hheap : ((T.setVm vm').setCell a (vp_cell c1 (n1, .inr (.inl (va_cpy f g sp.toNatClampNeg dp.toNatClampNeg n.toNatClampNeg))))).heap = H.setIfInBounds a (vp_cell c1 (n1, .inr (.inl (va_cpy f g sp.toNatClampNeg dp.toNatClampNeg n.toNatClampNeg)))) := by rw [← hT]; rfl
  obtain ⟨t, a1, b1⟩ := kk (H.setIfInBounds a (vp_cell c1 (n1, .inr (.inl (va_cpy f g sp.toNatClampNeg dp.toNatClampNeg n.toNatClampNeg))))) _ (fun z hz => by
      obtain ⟨y, -, hy⟩ := List.mem_map.mp hz
      rw [← hy]) (by simp [Array.getElem?_setIfInBounds, hl]) (by simp) (fun q hq => by simp [Array.getElem?_setIfInBounds, Ne.symm hq]) _ hheap X'
  exact ⟨t, step t a1, b1⟩
end QS3
end
section
section QS4
variable {xa : Nat → Nat} {base : Nat} {cA : FieldType → ClassId} {D : va_G} {X : qm_X}
variable {p : Program} {l : Launch} {e : Env} {R : Room} {s : State} {m : MethodId} {args : Array Value} {below : List Frame} {meth : Method} {c : Code} {Z : State → Prop} {cc : ByteArray} {nL o : Nat}
theorem qs_getp {l : qm_L} {i : Nat} {v : Value} (hg : qm_get l i = some v) : ∃ j : Nat, (qs_tl xa base l)[j]? = some (i, qs_tv xa base v) := by
  unfold qm_get at hg
  cases hf : l.find? (fun q => q.1 == i) with
  | none => rw [hf] at hg; cases hg
  | some q =>
    rw [hf] at hg
    have h1 := List.find?_some hf
    have h2 := List.mem_of_find?_eq_some hf
    have h3 : q.1 = i := by simpa using h1
    cases hg
    subst h3
    exact List.getElem?_of_mem (List.mem_map.mpr ⟨q, h2, rfl⟩)
set_option maxHeartbeats 4000000 in
set_option maxRecDepth 100000 in
theorem qs_go (hall : qs_all) (hx : p.tables.exec = Jvm.exec) (hb : c.code = cc) (hml : c.maxLocals = nL) (hown : s.vm.findClass (qx_on o) = some m.cls) (hts : ∀ w ∈ qs_TB, w.before args s = true) (hK : va_K D qx_cl (qs_tys cA) s) (hX : qs_X xa base X s s.heap) {M : qm_M} (hM1 : M.1 = nL) (hinit : M.2.2.1 = true → meth.name = "<init>") (hMo : M.2.2.2.1 = qx_oc o) (hM5 : M.2.2.2.2.1 = R.cells) (hM6 : M.2.2.2.2.2 = R.slots) (hR1 : 1 ≤ R.frames) (hR2 : 60 ≤ R.locals)
    {pc len r1 r2 r3 : Nat} {i : Instr} {rv : Value} (hdec : decode cc pc = .ok (i, len)) (hok : qs_ok o (pc, i, len, r1, r2, r3, rv)) {ls : qm_L} {st : List Value} {w : qm_W} {cn n : Nat} {s' : qm_S} (hjmp : ∃ t : Nat, (pc : Int) + qs_off i = (t : Int))
    (hlen : ∀ (ty : FieldType) (mm : Nat) (f : (Nat → Int32) ⊕ (Nat → Int64) ⊕ (Nat → UInt32) ⊕ (Nat → UInt64) ⊕ (Nat → Option Nat)) (a : Nat) (r : List Value), qm_cell X w a = some (.inl (ty, mm, f)) → (a < 16 ∨ ty = .int ∨ ty = .long ∨ ty = .boolean ∨ ty = .object "OneRoof$Custom") → decode cc pc = .ok (.arraylength, 1) → ∀ (H : Heap) (locs : List Loc) (lsA : Array Slot), qs_R xa base cA D w H → va_S (qs_A base) s.heap H locs → W p l e R s m args below meth c H locs cn n Z (F0 m (pc + 1) lsA (.int (Int32.ofNat mm) :: r.map (qs_tv xa base))) → W p l e R s m args below meth c H locs cn n Z (F0 m pc lsA (qs_tv xa base (.ref a) :: r.map (qs_tv xa base))))
    (hf : qm_eff X qx_T M (pc, i, len, r1, r2, r3, rv) ls st w cn n = some s') (K : qs_P xa base cA D p l e R s m args below meth c Z nL s') : qs_P xa base cA D p l e R s m args below meth c Z nL (pc, ls, st, w, cn, n) := by
  cases i with
  | iconst k =>
    simp only [qm_eff, qm_go] at hf
    split at hf
    · rename_i hlen
      subst hlen
      cases hf
      intro H locs lsA hl hR hS
      exact lv_iconst hx hb hdec rfl (K H locs lsA hl hR hS)
    · cases hf
  | bipush k =>
    simp only [qm_eff, qm_go] at hf
    split at hf
    · rename_i hlen
      subst hlen
      cases hf
      intro H locs lsA hl hR hS
      exact lv_bipush hx hb hdec rfl (K H locs lsA hl hR hS)
    · cases hf
  | sipush k =>
    simp only [qm_eff, qm_go] at hf
    split at hf
    · rename_i hlen
      subst hlen
      cases hf
      intro H locs lsA hl hR hS
      exact lv_sipush hx hb hdec rfl (K H locs lsA hl hR hS)
    · cases hf
  | lconst k =>
    simp only [qm_eff, qm_go] at hf
    split at hf
    · rename_i hlen
      subst hlen
      cases hf
      intro H locs lsA hl hR hS
      exact lv_lconst hx hb hdec rfl (K H locs lsA hl hR hS)
    · cases hf
  | iload_n k =>
    simp only [qm_eff, qm_go] at hf
    split at hf
    · rename_i x hg
      split at hf
      · rename_i hlen
        subst hlen
        cases hf
        intro H locs lsA hl hR hS
        exact lv_iload_n hx hb hdec rfl (qs_get hl hg) (K H locs lsA hl hR hS)
      · cases hf
    · cases hf
  | iload k =>
    simp only [qm_eff, qm_go] at hf
    split at hf
    · rename_i x hg
      split at hf
      · rename_i hlen
        subst hlen
        cases hf
        intro H locs lsA hl hR hS
        exact lv_iload hx hb hdec (qs_get hl hg) (K H locs lsA hl hR hS)
      · cases hf
    · cases hf
  | lload_n k =>
    simp only [qm_eff, qm_go] at hf
    split at hf
    · rename_i x hg
      split at hf
      · rename_i hlen
        subst hlen
        cases hf
        intro H locs lsA hl hR hS
        exact lv_lload_n hx hb hdec rfl (qs_get hl hg) (K H locs lsA hl hR hS)
      · cases hf
    · cases hf
  | lload k =>
    simp only [qm_eff, qm_go] at hf
    split at hf
    · rename_i x hg
      split at hf
      · rename_i hlen
        subst hlen
        cases hf
        intro H locs lsA hl hR hS
        exact lv_lload hx hb hdec (qs_get hl hg) (K H locs lsA hl hR hS)
      · cases hf
    · cases hf
  | aload_n k =>
    simp only [qm_eff, qm_go] at hf
    split at hf
    · rename_i x hg
      split at hf
      · rename_i hlen
        subst hlen
        cases hf
        intro H locs lsA hl hR hS
        exact lv_aload_n hx hb hdec rfl (qs_get hl hg) (K H locs lsA hl hR hS)
      · cases hf
    · cases hf
  | aload k =>
    simp only [qm_eff, qm_go] at hf
    split at hf
    · rename_i x hg
      split at hf
      · rename_i hlen
        subst hlen
        cases hf
        intro H locs lsA hl hR hS
        exact lv_aload hx hb hdec (qs_get hl hg) (K H locs lsA hl hR hS)
      · cases hf
    · cases hf
  | istore_n k =>
    simp only [qm_eff, qm_go] at hf
    split at hf
    · rename_i x r
      split at hf
      · rename_i hlen
        obtain ⟨rfl, hlt⟩ := hlen
        cases hf
        intro H locs lsA hl hR hS
        exact lv_istore_n hx hb hdec rfl hl (hM1 ▸ hlt) (qs_put1 ls (k : Nat) (.int x)) (fun ls' hl' => K H locs ls' hl' hR hS)
      · cases hf
    · cases hf
  | istore k =>
    simp only [qm_eff, qm_go] at hf
    split at hf
    · rename_i x r
      split at hf
      · rename_i hlen
        obtain ⟨rfl, hlt⟩ := hlen
        cases hf
        intro H locs lsA hl hR hS
        exact lv_istore hx hb hdec hl (hM1 ▸ hlt) (qs_put1 ls k (.int x)) (fun ls' hl' => K H locs ls' hl' hR hS)
      · cases hf
    · cases hf
  | astore_n k =>
    simp only [qm_eff, qm_go] at hf
    split at hf
    · rename_i x r
      split at hf
      · rename_i hlen
        obtain ⟨rfl, hlt⟩ := hlen
        cases hf
        intro H locs lsA hl hR hS
        exact lv_astore_n hx hb hdec rfl hl (hM1 ▸ hlt) (qs_put1 ls (k : Nat) (.ref x)) (fun ls' hl' => K H locs ls' hl' hR hS)
      · cases hf
    · cases hf
  | astore k =>
    simp only [qm_eff, qm_go] at hf
    split at hf
    · rename_i x r
      split at hf
      · rename_i hlen
        obtain ⟨rfl, hlt⟩ := hlen
        cases hf
        intro H locs lsA hl hR hS
        exact lv_astore hx hb hdec hl (hM1 ▸ hlt) (qs_put1 ls k (.ref x)) (fun ls' hl' => K H locs ls' hl' hR hS)
      · cases hf
    · cases hf
  | lstore_n k =>
    simp only [qm_eff, qm_go] at hf
    split at hf
    · rename_i x r
      split at hf
      · rename_i hlen
        obtain ⟨rfl, hlt⟩ := hlen
        cases hf
        intro H locs lsA hl hR hS
        exact lv_lstore_n hx hb hdec rfl hl (hM1 ▸ hlt) (qs_put2 ls (k : Nat) (.long x)) (fun ls' hl' => K H locs ls' hl' hR hS)
      · cases hf
    · cases hf
  | lstore k =>
    simp only [qm_eff, qm_go] at hf
    split at hf
    · rename_i x r
      split at hf
      · rename_i hlen
        obtain ⟨rfl, hlt⟩ := hlen
        cases hf
        intro H locs lsA hl hR hS
        exact lv_lstore hx hb hdec hl (hM1 ▸ hlt) (qs_put2 ls k (.long x)) (fun ls' hl' => K H locs ls' hl' hR hS)
      · cases hf
    · cases hf
  | iinc k d =>
    simp only [qm_eff, qm_go] at hf
    split at hf
    · rename_i x hg
      split at hf
      · rename_i hlen
        obtain ⟨rfl, hlt⟩ := hlen
        cases hf
        intro H locs lsA hl hR hS
        obtain ⟨j, hj⟩ := qs_getp (xa := xa) (base := base) hg
        exact lv_iinc hx hb hdec hl hj rfl (hM1 ▸ hlt) (qs_put1 ls k (.int (x + Int32.ofInt d))) (fun ls' hl' => K H locs ls' hl' hR hS)
      · cases hf
    · cases hf
  | iadd =>
    simp only [qm_eff, qm_go] at hf
    split at hf
    · split at hf
      · rename_i hlen
        subst hlen
        cases hf
        intro H locs lsA hl hR hS
        exact lv_iadd hx hb hdec (K H locs lsA hl hR hS)
      · cases hf
    · cases hf
  | isub =>
    simp only [qm_eff, qm_go] at hf
    split at hf
    · split at hf
      · rename_i hlen
        subst hlen
        cases hf
        intro H locs lsA hl hR hS
        exact lv_isub hx hb hdec (K H locs lsA hl hR hS)
      · cases hf
    · cases hf
  | imul =>
    simp only [qm_eff, qm_go] at hf
    split at hf
    · split at hf
      · rename_i hlen
        subst hlen
        cases hf
        intro H locs lsA hl hR hS
        exact lv_imul hx hb hdec (K H locs lsA hl hR hS)
      · cases hf
    · cases hf
  | iand =>
    simp only [qm_eff, qm_go] at hf
    split at hf
    · split at hf
      · rename_i hlen
        subst hlen
        cases hf
        intro H locs lsA hl hR hS
        exact lv_iand hx hb hdec (K H locs lsA hl hR hS)
      · cases hf
    · cases hf
  | ior =>
    simp only [qm_eff, qm_go] at hf
    split at hf
    · split at hf
      · rename_i hlen
        subst hlen
        cases hf
        intro H locs lsA hl hR hS
        exact lv_ior hx hb hdec (K H locs lsA hl hR hS)
      · cases hf
    · cases hf
  | ixor =>
    simp only [qm_eff, qm_go] at hf
    split at hf
    · split at hf
      · rename_i hlen
        subst hlen
        cases hf
        intro H locs lsA hl hR hS
        exact lv_ixor hx hb hdec (K H locs lsA hl hR hS)
      · cases hf
    · cases hf
  | ladd =>
    simp only [qm_eff, qm_go] at hf
    split at hf
    · split at hf
      · rename_i hlen
        subst hlen
        cases hf
        intro H locs lsA hl hR hS
        exact lv_ladd hx hb hdec (K H locs lsA hl hR hS)
      · cases hf
    · cases hf
  | lsub =>
    simp only [qm_eff, qm_go] at hf
    split at hf
    · split at hf
      · rename_i hlen
        subst hlen
        cases hf
        intro H locs lsA hl hR hS
        exact lv_lsub hx hb hdec (K H locs lsA hl hR hS)
      · cases hf
    · cases hf
  | lmul =>
    simp only [qm_eff, qm_go] at hf
    split at hf
    · split at hf
      · rename_i hlen
        subst hlen
        cases hf
        intro H locs lsA hl hR hS
        exact lv_lmul hx hb hdec (K H locs lsA hl hR hS)
      · cases hf
    · cases hf
  | land =>
    simp only [qm_eff, qm_go] at hf
    split at hf
    · split at hf
      · rename_i hlen
        subst hlen
        cases hf
        intro H locs lsA hl hR hS
        exact lv_land hx hb hdec (K H locs lsA hl hR hS)
      · cases hf
    · cases hf
  | lor =>
    simp only [qm_eff, qm_go] at hf
    split at hf
    · split at hf
      · rename_i hlen
        subst hlen
        cases hf
        intro H locs lsA hl hR hS
        exact lv_lor hx hb hdec (K H locs lsA hl hR hS)
      · cases hf
    · cases hf
  | lxor =>
    simp only [qm_eff, qm_go] at hf
    split at hf
    · split at hf
      · rename_i hlen
        subst hlen
        cases hf
        intro H locs lsA hl hR hS
        exact lv_lxor hx hb hdec (K H locs lsA hl hR hS)
      · cases hf
    · cases hf
  | ishl =>
    simp only [qm_eff, qm_go] at hf
    split at hf
    · split at hf
      · rename_i hlen
        subst hlen
        cases hf
        intro H locs lsA hl hR hS
        exact lv_ishl hx hb hdec (K H locs lsA hl hR hS)
      · cases hf
    · cases hf
  | ishr =>
    simp only [qm_eff, qm_go] at hf
    split at hf
    · split at hf
      · rename_i hlen
        subst hlen
        cases hf
        intro H locs lsA hl hR hS
        exact lv_ishr hx hb hdec (K H locs lsA hl hR hS)
      · cases hf
    · cases hf
  | iushr =>
    simp only [qm_eff, qm_go] at hf
    split at hf
    · split at hf
      · rename_i hlen
        subst hlen
        cases hf
        intro H locs lsA hl hR hS
        exact lv_iushr hx hb hdec rfl (K H locs lsA hl hR hS)
      · cases hf
    · cases hf
  | lshl =>
    simp only [qm_eff, qm_go] at hf
    split at hf
    · split at hf
      · rename_i hlen
        subst hlen
        cases hf
        intro H locs lsA hl hR hS
        exact lv_lshl hx hb hdec rfl (K H locs lsA hl hR hS)
      · cases hf
    · cases hf
  | lshr =>
    simp only [qm_eff, qm_go] at hf
    split at hf
    · split at hf
      · rename_i hlen
        subst hlen
        cases hf
        intro H locs lsA hl hR hS
        exact lv_lshr hx hb hdec rfl (K H locs lsA hl hR hS)
      · cases hf
    · cases hf
  | lushr =>
    simp only [qm_eff, qm_go] at hf
    split at hf
    · split at hf
      · rename_i hlen
        subst hlen
        cases hf
        intro H locs lsA hl hR hS
        exact lv_lushr hx hb hdec rfl (K H locs lsA hl hR hS)
      · cases hf
    · cases hf
  | lcmp =>
    simp only [qm_eff, qm_go] at hf
    split at hf
    · split at hf
      · rename_i hlen
        subst hlen
        cases hf
        intro H locs lsA hl hR hS
        exact W.lcmp hx hb hdec (K H locs lsA hl hR hS)
      · cases hf
    · cases hf
  | ineg =>
    simp only [qm_eff, qm_go] at hf
    split at hf
    · split at hf
      · rename_i hlen
        subst hlen
        cases hf
        intro H locs lsA hl hR hS
        exact lv_ineg hx hb hdec (K H locs lsA hl hR hS)
      · cases hf
    · cases hf
  | i2l =>
    simp only [qm_eff, qm_go] at hf
    split at hf
    · split at hf
      · rename_i hlen
        subst hlen
        cases hf
        intro H locs lsA hl hR hS
        exact lv_i2l hx hb hdec rfl (K H locs lsA hl hR hS)
      · cases hf
    · cases hf
  | l2i =>
    simp only [qm_eff, qm_go] at hf
    split at hf
    · split at hf
      · rename_i hlen
        subst hlen
        cases hf
        intro H locs lsA hl hR hS
        exact lv_l2i hx hb hdec rfl (K H locs lsA hl hR hS)
      · cases hf
    · cases hf
  | i2b =>
    simp only [qm_eff, qm_go] at hf
    split at hf
    · split at hf
      · rename_i hlen
        subst hlen
        cases hf
        intro H locs lsA hl hR hS
        exact lv_i2b hx hb hdec rfl (K H locs lsA hl hR hS)
      · cases hf
    · cases hf
  | i2s =>
    simp only [qm_eff, qm_go] at hf
    split at hf
    · split at hf
      · rename_i hlen
        subst hlen
        cases hf
        intro H locs lsA hl hR hS
        exact lv_i2s hx hb hdec rfl (K H locs lsA hl hR hS)
      · cases hf
    · cases hf
  | i2c =>
    simp only [qm_eff, qm_go] at hf
    split at hf
    · split at hf
      · rename_i hlen
        subst hlen
        cases hf
        intro H locs lsA hl hR hS
        exact lv_i2c hx hb hdec rfl (K H locs lsA hl hR hS)
      · cases hf
    · cases hf
  | idiv =>
    simp only [qm_eff, qm_go] at hf
    split at hf
    · split at hf
      · rename_i hlen
        obtain ⟨rfl, hne⟩ := hlen
        cases hf
        intro H locs lsA hl hR hS
        exact lv_idiv hx hb hdec hne (K H locs lsA hl hR hS)
      · cases hf
    · cases hf
  | irem =>
    simp only [qm_eff, qm_go] at hf
    split at hf
    · split at hf
      · rename_i hlen
        obtain ⟨rfl, hne⟩ := hlen
        cases hf
        intro H locs lsA hl hR hS
        exact lv_irem hx hb hdec hne (K H locs lsA hl hR hS)
      · cases hf
    · cases hf
  | dup =>
    simp only [qm_eff, qm_go] at hf
    split at hf
    · split at hf
      · rename_i hlen
        obtain ⟨rfl, h1⟩ := hlen
        cases hf
        intro H locs lsA hl hR hS
        exact lv_dup hx hb hdec ((qs_tv_cat _).trans h1) (K H locs lsA hl hR hS)
      · cases hf
    · cases hf
  | pop =>
    simp only [qm_eff, qm_go] at hf
    split at hf
    · split at hf
      · rename_i hlen
        obtain ⟨rfl, h1⟩ := hlen
        cases hf
        intro H locs lsA hl hR hS
        exact lv_pop hx hb hdec ((qs_tv_cat _).trans h1) (K H locs lsA hl hR hS)
      · cases hf
    · cases hf
  | dup_x1 =>
    simp only [qm_eff, qm_go] at hf
    split at hf
    · split at hf
      · rename_i hlen
        obtain ⟨rfl, h1, h2⟩ := hlen
        cases hf
        intro H locs lsA hl hR hS
        exact lv_dup_x1 hx hb hdec ((qs_tv_cat _).trans h1) ((qs_tv_cat _).trans h2) (K H locs lsA hl hR hS)
      · cases hf
    · cases hf
  | dup2 =>
    simp only [qm_eff, qm_go] at hf
    split at hf
    · split at hf
      · rename_i hlen
        obtain ⟨rfl, h1, h2⟩ := hlen
        cases hf
        intro H locs lsA hl hR hS
        exact lv_dup2_11 hx hb hdec ((qs_tv_cat _).trans h1) ((qs_tv_cat _).trans h2) (K H locs lsA hl hR hS)
      · cases hf
    · cases hf
  | pop2 =>
    simp only [qm_eff, qm_go] at hf
    split at hf
    · split at hf
      · rename_i hlen
        obtain ⟨rfl, h1⟩ := hlen
        cases hf
        intro H locs lsA hl hR hS
        exact lv_pop2_2 hx hb hdec ((qs_tv_cat _).trans h1) (K H locs lsA hl hR hS)
      · cases hf
    · cases hf
  | ifCond k off =>
    simp only [qm_eff, qm_go] at hf
    split at hf
    · split at hf
      · rename_i hlen
        subst hlen
        split at hf
        · rename_i hc
          obtain ⟨t, ht, rfl⟩ := qs_jump hf
          intro H locs lsA hl hR hS
          exact qs_icond hx hb hdec ht (fun _ => K H locs lsA hl hR hS) (fun h => by rw [hc] at h; cases h)
        · rename_i hc
          cases hf
          intro H locs lsA hl hR hS
          obtain ⟨t, ht⟩ := hjmp
          exact qs_icond hx hb hdec ht (fun h => absurd h hc) (fun _ => K H locs lsA hl hR hS)
      · cases hf
    · cases hf
  | if_icmp k off =>
    simp only [qm_eff, qm_go] at hf
    split at hf
    · split at hf
      · rename_i hlen
        subst hlen
        split at hf
        · rename_i hc
          obtain ⟨t, ht, rfl⟩ := qs_jump hf
          intro H locs lsA hl hR hS
          exact qs_icmp hx hb hdec ht (fun _ => K H locs lsA hl hR hS) (fun h => by rw [hc] at h; cases h)
        · rename_i hc
          cases hf
          intro H locs lsA hl hR hS
          obtain ⟨t, ht⟩ := hjmp
          exact qs_icmp hx hb hdec ht (fun h => absurd h hc) (fun _ => K H locs lsA hl hR hS)
      · cases hf
    · cases hf
  | goto off =>
    simp only [qm_eff, qm_go] at hf
    split at hf
    · rename_i hlen
      subst hlen
      obtain ⟨t, ht, rfl⟩ := qs_jump hf
      intro H locs lsA hl hR hS
      exact lv_goto hx hb hdec ht (K H locs lsA hl hR hS)
    · cases hf
  | tableswitch dflt lo hi offs =>
    simp only [qm_eff, qm_go] at hf
    split at hf
    · split at hf
      · rename_i h
        obtain ⟨t, ht, rfl⟩ := qs_jump hf
        intro H locs lsA hl hR hS
        exact lv_tableOut hx hb hdec h ht (K H locs lsA hl hR hS)
      · rename_i x r h
        cases ho : offs[(x.toInt - lo).toNat]? with
        | none => rw [ho] at hf; cases hf
        | some off =>
          rw [ho] at hf
          obtain ⟨t, ht, rfl⟩ := qs_jump hf
          intro H locs lsA hl hR hS
          exact lv_tableIn hx hb hdec (fun z => h (Or.inl z)) (fun z => h (Or.inr z)) ho ht (K H locs lsA hl hR hS)
    · cases hf
  | lookupswitch dflt ps =>
    simp only [qm_eff, qm_go] at hf
    split at hf
    · split at hf
      · rename_i h
        obtain ⟨t, ht, rfl⟩ := qs_jump hf
        intro H locs lsA hl hR hS
        exact lv_lookup hx hb hdec h rfl ht (K H locs lsA hl hR hS)
      · cases hf
    · cases hf
  | ldc i =>
    simp only [qm_eff, qm_go] at hf
    split at hf
    · rename_i h
      obtain ⟨rfl, h⟩ := h
      cases hf
      intro H locs lsA hl hR hS
      have k := K H locs lsA hl hR hS
      rcases h with h | h
      · obtain ⟨v, hv, hw⟩ := hok.1 h
        have hv : rv = .int v := hv
        subst hv
        exact lv_ldc hx hb hown (hts _ (qs_in hw rfl)) hdec k
      · obtain ⟨tx, j, hv, hj, hw⟩ := hok.2 h
        have hv : rv = .ref j := hv
        subst hv
        have e1 : qs_tv xa base (.ref j) = .ref (xa j) := by show Value.ref (qs_ad xa base j) = _; rw [qs_ad_lo hj]
        simp only [List.map_cons, e1] at k
        exact va_ldcS hx hb hown (hX.2.2.2.1 _ hw) hdec k
    · cases hf
  | ldc_w i =>
    simp only [qm_eff, qm_go] at hf
    split at hf
    · rename_i h
      obtain ⟨rfl, h⟩ := h
      cases hf
      intro H locs lsA hl hR hS
      have k := K H locs lsA hl hR hS
      obtain ⟨v, hv, hw⟩ := hok h
      have hv : rv = .int v := hv
      subst hv
      exact lv_ldcw hx hb hown (hts _ (qs_in hw rfl)) hdec k
    · cases hf
  | ldc2_w i =>
    simp only [qm_eff, qm_go] at hf
    split at hf
    · rename_i h
      obtain ⟨rfl, h⟩ := h
      cases hf
      intro H locs lsA hl hR hS
      have k := K H locs lsA hl hR hS
      obtain ⟨v, hv, hw⟩ := hok h
      have hv : rv = .long v := hv
      subst hv
      exact lv_ldc2 hx hb hown (hts _ (qs_in hw rfl)) hdec k
    · cases hf
  | getstatic i =>
    simp only [qm_eff, qm_go] at hf
    split at hf
    · rename_i h
      obtain ⟨rfl, h⟩ := h
      cases hf
      intro H locs lsA hl hR hS
      obtain ⟨C, n', d, hm, hw⟩ := hok.1 h
      exact va_gets hx hb (hX.2.2.1 _ hm) hS hown (hts _ (qs_in hw rfl)) (fun _ h => h) hdec (K H locs lsA hl hR hS)
    · split at hf
      · rename_i h
        obtain ⟨rfl, h⟩ := h
        cases hf
        intro H locs lsA hl hR hS
        obtain ⟨C, n', d, hm, hw⟩ := hok.2 h
        exact va_gets hx hb (hX.2.2.1 _ hm) hS hown (hts _ (qs_in hw rfl)) (fun _ h => h) hdec (K H locs lsA hl hR hS)
      · cases hf
  | getfield i =>
    simp only [qm_eff, qm_go] at hf
    split at hf
    · rename_i a r
      split at hf
      · rename_i ci fs hcell
        split at hf
        · rename_i v hv
          split at hf
          · rename_i h
            obtain ⟨rfl, rfl, h9⟩ := h
            cases hf
            intro H locs lsA hl hR hS
            have k := K H locs lsA hl hR hS
            by_cases ha : a < 16
            · rw [qs_cell_lo ha] at hcell
              obtain ⟨e13, -, hval, hcod⟩ := hX.2.1 a _ _ ha hcell
              have e1 : qs_tv xa base (.ref a) = .ref (xa a) := by show Value.ref (qs_ad xa base a) = _; rw [qs_ad_lo ha]
              show W p l e R s m args below meth c H locs cn n Z (F0 m pc lsA (qs_tv xa base (.ref a) :: r.map (qs_tv xa base)))
              rw [e1]
              rcases hok with h0 | ⟨-, -, h0⟩ | ⟨h0, -⟩
              · exact absurd h0 h9
              · rcases h0 with ⟨h0, hw⟩ | ⟨h0, hw⟩
                · have h0 : r2 = 0 := h0
                  subst h0
                  exact vk_getf hx hb (hval _ hv) hS hown (hts _ (qs_in hw rfl)) (fun _ h => h) hdec k
                · have h0 : r2 = 1 := h0
                  subst h0
                  exact vk_getf hx hb (hcod _ hv) hS hown (hts _ (qs_in hw rfl)) (fun _ h => h) hdec k
              · have h0 : ci < 13 := h0
                omega
            · have ha : 16 ≤ a := Nat.le_of_not_lt ha
              rw [qs_cell_hi ha] at hcell
              have e1 : qs_tv xa base (.ref a) = .ref (base + (a - 16)) := by show Value.ref (qs_ad xa base a) = _; rw [qs_ad_hi ha]
              show W p l e R s m args below meth c H locs cn n Z (F0 m pc lsA (qs_tv xa base (.ref a) :: r.map (qs_tv xa base)))
              rw [e1]
              rcases hok with h0 | ⟨-, h13, -⟩ | ⟨h0, C, N, hc, hk, hw⟩
              · exact absurd h0 h9
              · obtain ⟨rr, hrr, -⟩ := hR.2 _ _ hcell
                have h13 : ci = 13 := h13
                subst h13
                cases hrr
              · obtain ⟨-, hin, -, -⟩ := hall.1 _ _ hc
                have hv' : (fs.map (qs_tv xa base))[r2]? = some (qs_tv xa base v) := by rw [List.getElem?_map, hv]; rfl
                rcases hw with ⟨-, hw⟩ | ⟨host, hw⟩
                · exact va_get hx hb hts (qs_u_in hin) hown hK (qs_P1 hR hcell) 0 rfl hc r2 hk (hts _ (qs_in hw rfl)) (fun _ h => h) hv' hdec k
                · exact va_getN hx hb hts (qs_u_in hin) hown hK (qs_P1 hR hcell) 0 rfl hc r2 hk (va_Nw.use rfl (hX.2.2.2.2.1 _ hw)) (fun _ h => h) hv' hdec k
          · cases hf
        · cases hf
      · cases hf
    · cases hf
  | putfield i =>
    simp only [qm_eff, qm_go] at hf
    split at hf
    · rename_i v a r
      split at hf
      · rename_i ci fs hcell
        split at hf
        · rename_i h
          obtain ⟨rfl, ha, rfl, h0, hlf, hfin, hfit⟩ := h
          cases hf
          intro H locs lsA hl hR hS
          have e1 : qs_tv xa base (.ref a) = .ref (base + (a - 16)) := by show Value.ref (qs_ad xa base a) = _; rw [qs_ad_hi ha]
          show W p l e R s m args below meth c H locs cn n Z (F0 m pc lsA (qs_tv xa base v :: qs_tv xa base (.ref a) :: r.map (qs_tv xa base)))
          rw [e1]
          rcases hok with h9 | ⟨hdecl, C, N, hc, hk, hw⟩
          · exact absurd h0 h9
          · obtain ⟨-, hin, hty, hnm⟩ := hall.1 _ _ hc
            obtain ⟨ty, hd, hb2⟩ : ∃ ty, parseFieldDescriptor (qx_T ci r2).2.2.1 = some ty ∧ qm_fitb ty v = true := by
              cases hpd : parseFieldDescriptor (qx_T ci r2).2.2.1 with
              | none => rw [hpd] at hfit; cases hfit
              | some ty => rw [hpd] at hfit; exact ⟨ty, rfl, hfit⟩
            obtain ⟨hn, hft⟩ := qs_fitv (xa := xa) (base := base) hb2
            have kk : ∀ H1 : Heap, va_at D qx_cl (base + (a - 16), .inr (ci, (fs.map (qs_tv xa base)).set r2 (qs_tv xa base v))) H1 → H1.size = H.size → (∀ q : Nat, q ≠ base + (a - 16) → H1[q]? = H[q]?) → W p l e R s m args below meth c H1 (locs ++ [⟨base + (a - 16), D.2 ci r2⟩]) cn n Z (F0 m (pc + 3) lsA (r.map (qs_tv xa base))) := by
              intro H1 e1 z o
              refine K H1 _ lsA hl (qs_R_set hR hcell ?_ z o) (hS.put z o (Nat.le_add_right _ _))
              show va_at D qx_cl (base + (a - 16), .inr (ci, (fs.set r2 v).map (qs_tv xa base))) H1
              rw [List.map_set]
              exact e1
            cases hf2 : (qx_T ci r2).2.2.2 with
            | false => exact qs_put hx hb hts (qs_u_in hin) (qx_ty ci) hty hnm hown hK (hR.2 _ _ hcell) hc hk (hts _ (qs_in hw rfl)) hf2 hd hn hft (by rw [List.length_map]; exact hlf) hdec kk
            | true =>
              obtain ⟨f1, f2⟩ := hfin hf2
              exact qs_putF hx hb hts (qs_u_in hin) (qx_ty ci) hty hnm hown hK (hR.2 _ _ hcell) hc hk (hts _ (qs_in hw rfl)) hf2 (hinit f1) (hdecl (hMo ▸ f2)) hd hn hft (by rw [List.length_map]; exact hlf) hdec kk
        · cases hf
      · cases hf
    · cases hf
  | iaload =>
    simp only [qm_eff, qm_go] at hf
    split at hf
    · rename_i i a r
      split at hf
      · rename_i mm f hcell
        split at hf
        · rename_i h
          obtain ⟨rfl, hin⟩ := h
          cases hf
          intro H locs lsA hl hR hS
          have k := K H locs lsA hl hR hS
          by_cases ha : a < 16
          · rw [qs_cell_lo ha] at hcell
            have e1 : qs_tv xa base (.ref a) = .ref (xa a) := by show Value.ref (qs_ad xa base a) = _; rw [qs_ad_lo ha]
            show W p l e R s m args below meth c H locs cn n Z (F0 m pc lsA (.int i :: qs_tv xa base (.ref a) :: r.map (qs_tv xa base)))
            rw [e1]
            exact va_ti hx hb (hX.1 a mm .int f ha hcell) hS (qs_vin hin) rfl hdec k
          · have ha : 16 ≤ a := Nat.le_of_not_lt ha
            rw [qs_cell_hi ha] at hcell
            have e1 : qs_tv xa base (.ref a) = .ref (base + (a - 16)) := by show Value.ref (qs_ad xa base a) = _; rw [qs_ad_hi ha]
            show W p l e R s m args below meth c H locs cn n Z (F0 m pc lsA (.int i :: qs_tv xa base (.ref a) :: r.map (qs_tv xa base)))
            rw [e1]
            exact va_iald hx hb hK (qs_P1 hR hcell) 0 0 rfl rfl (qs_vin hin) hdec k
        · cases hf
      · cases hf
    · cases hf
  | laload =>
    simp only [qm_eff, qm_go] at hf
    split at hf
    · rename_i i a r
      split at hf
      · rename_i mm f hcell
        split at hf
        · rename_i h
          obtain ⟨rfl, ha, hin⟩ := h
          cases hf
          intro H locs lsA hl hR hS
          have k := K H locs lsA hl hR hS
          have e1 : qs_tv xa base (.ref a) = .ref (base + (a - 16)) := by show Value.ref (qs_ad xa base a) = _; rw [qs_ad_hi ha]
          show W p l e R s m args below meth c H locs cn n Z (F0 m pc lsA (.int i :: qs_tv xa base (.ref a) :: r.map (qs_tv xa base)))
          rw [e1]
          exact va_lald hx hb hK (qs_P1 hR hcell) 0 1 rfl rfl (qs_vin hin) hdec k
        · cases hf
      · cases hf
    · cases hf
  | aaload =>
    simp only [qm_eff, qm_go] at hf
    split at hf
    · rename_i i a r
      split at hf
      · rename_i C mm f hcell
        split at hf
        · rename_i h
          obtain ⟨rfl, ha, rfl, hin⟩ := h
          cases hf
          intro H locs lsA hl hR hS
          have k := K H locs lsA hl hR hS
          have e1 : qs_tv xa base (.ref a) = .ref (base + (a - 16)) := by show Value.ref (qs_ad xa base a) = _; rw [qs_ad_hi ha]
          show W p l e R s m args below meth c H locs cn n Z (F0 m pc lsA (.int i :: qs_tv xa base (.ref a) :: r.map (qs_tv xa base)))
          rw [e1]
          have e2 : qs_tv xa base (va_rf (f i.toNatClampNeg)) = va_rf ((f i.toNatClampNeg).map (qs_ad xa base)) := by cases f i.toNatClampNeg <;> rfl
          simp only [List.map_cons, e2] at k
          exact va_aldq (C := "OneRoof$Custom") hx hb hK (qs_P1 hR hcell) 0 3 rfl rfl (qs_vin hin) hdec k
        · cases hf
      · cases hf
    · cases hf
  | baload =>
    simp only [qm_eff, qm_go] at hf
    split at hf
    · rename_i i a r
      split at hf
      · rename_i mm f hcell
        split at hf
        · rename_i h
          obtain ⟨rfl, ha, hin⟩ := h
          cases hf
          intro H locs lsA hl hR hS
          have k := K H locs lsA hl hR hS
          rw [qs_cell_hi ha] at hcell
          have e1 : qs_tv xa base (.ref a) = .ref (base + (a - 16)) := by show Value.ref (qs_ad xa base a) = _; rw [qs_ad_hi ha]
          show W p l e R s m args below meth c H locs cn n Z (F0 m pc lsA (.int i :: qs_tv xa base (.ref a) :: r.map (qs_tv xa base)))
          rw [e1]
          exact va_zald hx hb hK (qs_P1 hR hcell) 0 2 rfl rfl (qs_vin hin) hdec k
        · cases hf
      · rename_i mm f hcell
        split at hf
        · rename_i h
          obtain ⟨rfl, ha, hin⟩ := h
          cases hf
          intro H locs lsA hl hR hS
          have k := K H locs lsA hl hR hS
          rw [qs_cell_lo ha] at hcell
          have e1 : qs_tv xa base (.ref a) = .ref (xa a) := by show Value.ref (qs_ad xa base a) = _; rw [qs_ad_lo ha]
          show W p l e R s m args below meth c H locs cn n Z (F0 m pc lsA (.int i :: qs_tv xa base (.ref a) :: r.map (qs_tv xa base)))
          rw [e1]
          exact va_tb hx hb (hX.1 a mm .byte f ha hcell) hS (qs_vin hin) rfl hdec k
        · cases hf
      · cases hf
    · cases hf
  | iastore =>
    simp only [qm_eff, qm_go] at hf
    split at hf
    · rename_i x i a r
      split at hf
      · rename_i mm f hcell
        split at hf
        · rename_i h
          obtain ⟨rfl, ha, hin⟩ := h
          cases hf
          intro H locs lsA hl hR hS
          have e1 : qs_tv xa base (.ref a) = .ref (base + (a - 16)) := by show Value.ref (qs_ad xa base a) = _; rw [qs_ad_hi ha]
          show W p l e R s m args below meth c H locs cn n Z (F0 m pc lsA (.int x :: .int i :: qs_tv xa base (.ref a) :: r.map (qs_tv xa base)))
          rw [e1]
          exact qs_iast hx hb ((hK.2 0 _ rfl).1) (hR.2 _ _ hcell) (qs_vin hin) hdec (fun H1 e1 z o => K H1 _ lsA hl (qs_R_set hR hcell e1 z o) (hS.put z o (Nat.le_add_right _ _)))
        · cases hf
      · cases hf
    · cases hf
  | lastore =>
    simp only [qm_eff, qm_go] at hf
    split at hf
    · rename_i x i a r
      split at hf
      · rename_i mm f hcell
        split at hf
        · rename_i h
          obtain ⟨rfl, ha, hin⟩ := h
          cases hf
          intro H locs lsA hl hR hS
          have e1 : qs_tv xa base (.ref a) = .ref (base + (a - 16)) := by show Value.ref (qs_ad xa base a) = _; rw [qs_ad_hi ha]
          show W p l e R s m args below meth c H locs cn n Z (F0 m pc lsA (.long x :: .int i :: qs_tv xa base (.ref a) :: r.map (qs_tv xa base)))
          rw [e1]
          exact qs_last hx hb ((hK.2 1 _ rfl).1) (hR.2 _ _ hcell) (qs_vin hin) hdec (fun H1 e1 z o => K H1 _ lsA hl (qs_R_set hR hcell e1 z o) (hS.put z o (Nat.le_add_right _ _)))
        · cases hf
      · cases hf
    · cases hf
  | bastore =>
    simp only [qm_eff, qm_go] at hf
    split at hf
    · rename_i x i a r
      split at hf
      · rename_i mm f hcell
        split at hf
        · rename_i h
          obtain ⟨rfl, ha, hin⟩ := h
          cases hf
          intro H locs lsA hl hR hS
          have e1 : qs_tv xa base (.ref a) = .ref (base + (a - 16)) := by show Value.ref (qs_ad xa base a) = _; rw [qs_ad_hi ha]
          show W p l e R s m args below meth c H locs cn n Z (F0 m pc lsA (.int x :: .int i :: qs_tv xa base (.ref a) :: r.map (qs_tv xa base)))
          rw [e1]
          exact qs_zast hx hb ((hK.2 2 _ rfl).1) (hR.2 _ _ hcell) (qs_vin hin) hdec (fun H1 e1 z o => K H1 _ lsA hl (qs_R_set hR hcell e1 z o) (hS.put z o (Nat.le_add_right _ _)))
        · cases hf
      · cases hf
    · cases hf
  | aastore =>
    simp only [qm_eff, qm_go] at hf
    split at hf
    · rename_i v i a r
      split at hf
      · rename_i C mm f cv vs hcell hcv
        split at hf
        · rename_i h
          obtain ⟨rfl, ha, hv, rfl, rfl, hin⟩ := h
          cases hf
          intro H locs lsA hl hR hS
          have e1 : qs_tv xa base (.ref a) = .ref (base + (a - 16)) := by show Value.ref (qs_ad xa base a) = _; rw [qs_ad_hi ha]
          have e2 : qs_tv xa base (.ref v) = .ref (base + (v - 16)) := by show Value.ref (qs_ad xa base v) = _; rw [qs_ad_hi hv]
          show W p l e R s m args below meth c H locs cn n Z (F0 m pc lsA (qs_tv xa base (.ref v) :: .int i :: qs_tv xa base (.ref a) :: r.map (qs_tv xa base)))
          rw [e1, e2]
          refine qs_aast hx hb hK (hK.2 3 _ rfl).2 (hR.2 _ _ hcell) (hR.2 _ _ hcv) rfl (qs_vin hin) hdec (fun H1 e1 z o => K H1 _ lsA hl (qs_R_set hR hcell ?_ z o) (hS.put z o (Nat.le_add_right _ _)))
          show H1[base + (a - 16)]? = some (vp_cell _ (mm, .inr (.inr (.inr (.inr (fun k => (va_up f i.toNatClampNeg (some v) k).map (qs_ad xa base)))))))
          have e3 : (fun k => (va_up f i.toNatClampNeg (some v) k).map (qs_ad xa base)) = va_up (fun k => (f k).map (qs_ad xa base)) i.toNatClampNeg (some (base + (v - 16))) := by
            funext k
            unfold va_up
            split
            · show some (qs_ad xa base v) = _
              rw [qs_ad_hi hv]
            · rfl
          rw [e3]
          exact e1
        · cases hf
      · cases hf
    · cases hf
  | arraylength =>
    simp only [qm_eff, qm_go] at hf
    split at hf
    · rename_i a r
      split at hf
      · rename_i ty mm f hcell
        split at hf
        · rename_i h
          obtain ⟨rfl, hty⟩ := h
          cases hf
          intro H locs lsA hl hR hS
          have k := K H locs lsA hl hR hS
          exact hlen ty mm f a r hcell hty hdec H locs lsA hR hS k
        · cases hf
      · cases hf
    · cases hf
  | newarray t =>
    simp only [qm_eff, qm_go] at hf
    split at hf
    · rename_i k r
      split at hf
      · rename_i h
        obtain ⟨rfl, hk0, hk1, hcs, hns⟩ := h
        split at hf
        · cases hf
          intro H locs lsA hl hR hS
          refine va_newaK (atype := .int) hx hb (hts _ (qs_in hall.2.1.1 rfl)) rfl hdec rfl hk0 rfl (by simp [componentBytes, newarray.typeOf]; omega) (hM5 ▸ hcs) (hM6 ▸ hns) rfl fun H1 c1 e1 z1 o1 hAr hnm => ?_
          have hc : c1 = cA .int := Option.some.inj (hnm.symm.trans ((hK.2 0 _ rfl).2))
          subst hc
          have hh : qs_tv xa base (.ref (16 + w.length)) = .ref H.size := by show Value.ref (qs_ad xa base (16 + w.length)) = _; rw [qs_ad_hi (Nat.le_add_right _ _), hR.1, Nat.add_sub_cancel_left]
          have kk := K H1 locs lsA hl (qs_R_push hR e1 z1 o1) (qs_S_push hS z1 o1)
          simp only [List.map_cons, hh] at kk
          exact kk
        · cases hf
          intro H locs lsA hl hR hS
          refine va_newaK (atype := .long) hx hb (hts _ (qs_in hall.2.1.2.1 rfl)) rfl hdec rfl hk0 rfl (by simp [componentBytes, newarray.typeOf]; omega) (hM5 ▸ hcs) (hM6 ▸ hns) rfl fun H1 c1 e1 z1 o1 hAr hnm => ?_
          have hc : c1 = cA .long := Option.some.inj (hnm.symm.trans ((hK.2 1 _ rfl).2))
          subst hc
          have hh : qs_tv xa base (.ref (16 + w.length)) = .ref H.size := by show Value.ref (qs_ad xa base (16 + w.length)) = _; rw [qs_ad_hi (Nat.le_add_right _ _), hR.1, Nat.add_sub_cancel_left]
          have kk := K H1 locs lsA hl (qs_R_push hR e1 z1 o1) (qs_S_push hS z1 o1)
          simp only [List.map_cons, hh] at kk
          exact kk
        · cases hf
          intro H locs lsA hl hR hS
          refine va_newaK (atype := .boolean) hx hb (hts _ (qs_in hall.2.1.2.2.1 rfl)) rfl hdec rfl hk0 rfl (by simp [componentBytes, newarray.typeOf]; omega) (hM5 ▸ hcs) (hM6 ▸ hns) rfl fun H1 c1 e1 z1 o1 hAr hnm => ?_
          have hc : c1 = cA .boolean := Option.some.inj (hnm.symm.trans ((hK.2 2 _ rfl).2))
          subst hc
          have hh : qs_tv xa base (.ref (16 + w.length)) = .ref H.size := by show Value.ref (qs_ad xa base (16 + w.length)) = _; rw [qs_ad_hi (Nat.le_add_right _ _), hR.1, Nat.add_sub_cancel_left]
          have kk := K H1 locs lsA hl (qs_R_push hR e1 z1 o1) (qs_S_push hS z1 o1)
          simp only [List.map_cons, hh] at kk
          exact kk
        · cases hf
      · cases hf
    · cases hf
  | anewarray i =>
    simp only [qm_eff, qm_go] at hf
    split at hf
    · rename_i k r
      split at hf
      · rename_i h
        obtain ⟨rfl, h7, h0, hk0, hk1, hcs, hns⟩ := h
        cases hf
        intro H locs lsA hl hR hS
        refine qs_newq hx hb hown (hts _ (qs_in (hok h0 h7) rfl)) hX.2.2.2.2.2 hk0 rfl (by omega) (hM5 ▸ hcs) (hM6 ▸ hns) hdec fun c1 H1 hnm e1 z1 o1 => ?_
        obtain ⟨_, _, -, -, -, h4⟩ := (hK.2 3 _ rfl).2
        have hc : c1 = cA (.object "OneRoof$Custom") := Option.some.inj (hnm.symm.trans h4)
        subst hc
        have hh : qs_tv xa base (.ref (16 + w.length)) = .ref H.size := by show Value.ref (qs_ad xa base (16 + w.length)) = _; rw [qs_ad_hi (Nat.le_add_right _ _), hR.1, Nat.add_sub_cancel_left]
        have kk := K H1 locs lsA hl (qs_R_push hR e1 z1 o1) (qs_S_push hS z1 o1)
        simp only [List.map_cons, hh] at kk
        exact kk
      · cases hf
    · cases hf
  | new i =>
    simp only [qm_eff, qm_go] at hf
    split at hf
    · rename_i h
      obtain ⟨rfl, h0, hcs, hns⟩ := h
      split at hf
      · rename_i q hq
        cases hf
        intro H locs lsA hl hR hS
        obtain ⟨C, N, hc, hw1, hw2, hw3⟩ := hok h0
        have hq' : q = (C, qx_T r1, N) := Option.some.inj (hq.symm.trans hc)
        subst hq'
        obtain ⟨-, hin, hty, -⟩ := hall.1 _ _ hc
        have hns : n + N ≤ M.2.2.2.2.2 := by rw [hq] at hns; exact hns
        have hfs : ∀ j, j < N → defaultValue (qx_ty r1 j) = vp_V (((List.range N).map (fun j => defaultValue (qx_ty r1 j))).map (qs_tv xa base)) j := by
          intro j hj
          unfold vp_V
          rw [List.map_map, List.getD_eq_getElem?_getD, List.getElem?_map, List.getElem?_range hj]
          show _ = qs_tv xa base (defaultValue (qx_ty r1 j))
          cases qx_ty r1 j <;> rfl
        refine qs_new (fs := ((List.range N).map (fun j => defaultValue (qx_ty r1 j))).map (qs_tv xa base)) hx hb hts (qs_u_in hin) (qx_ty r1) hty hown (hts _ (qs_in hw1 rfl)) (hts _ (qs_in hw2 rfl)) (hts _ (qs_in hw3 rfl)) hK hc hfs (hM5 ▸ hcs) (hM6 ▸ hns) hdec fun H1 e1 z1 o1 => ?_
        have hh : qs_tv xa base (.ref (16 + w.length)) = .ref H.size := by show Value.ref (qs_ad xa base (16 + w.length)) = _; rw [qs_ad_hi (Nat.le_add_right _ _), hR.1, Nat.add_sub_cancel_left]
        have kk := K H1 locs lsA hl (qs_R_push hR e1 z1 o1) (qs_S_push hS z1 o1)
        simp only [List.map_cons, hh] at kk
        exact kk
      · cases hf
    · cases hf
  | invokespecial i =>
    simp only [qm_eff, qm_go] at hf
    split at hf
    · rename_i a r
      split at hf
      · rename_i h
        obtain ⟨rfl, h6, h0, hsm⟩ := h
        cases hf
        intro H locs lsA hl hR hS
        refine W.objInit hx hb hown (hts _ (qs_in (hok.1 h6) rfl)) (hts _ (qs_in hall.2.1.2.2.2.2.2.2.1 rfl)) (hts _ (qs_in hall.2.1.2.2.2.2.2.2.2 rfl)) rfl (by rw [hml]; exact hl.1) rfl hdec hR1 ?_ (K H locs lsA hl hR hS)
        have := qs_sum_map (xa := xa) (base := base) r
        show 2 * 0 + _ + 12 ≤ _
        omega
      · cases hf
    · cases hf
  | invokestatic i =>
    simp only [qm_eff, qm_go] at hf
    · split at hf
      · rename_i k dp a1 sp a0 r
        split at hf
        · rename_i h
          obtain ⟨rfl, h7, ha0, ha1, hsp, hdp, hk, hsm⟩ := h
          have hloc : ((r.map (qs_tv xa base)).map fun v => v.category).sum + (nativeFrameWords "java/lang/System" "arraycopy" 5 + 11) ≤ R.locals := by
            rw [qs_sum_map]
            have : nativeFrameWords "java/lang/System" "arraycopy" 5 ≤ 30 := by decide +kernel
            omega
          have e1 : qs_tv xa base (.ref a1) = .ref (base + (a1 - 16)) := by show Value.ref (qs_ad xa base a1) = _; rw [qs_ad_hi ha1]
          have e0 : qs_tv xa base (.ref a0) = .ref (base + (a0 - 16)) := by show Value.ref (qs_ad xa base a0) = _; rw [qs_ad_hi ha0]
          split at hf
          · rename_i n0 f n1 g hc0 hc1
            split at hf
            · rename_i h
              cases hf
              intro H locs lsA hl hR hS
              show W p l e R s m args below meth c H locs cn n Z (F0 m pc lsA (.int k :: .int dp :: qs_tv xa base (.ref a1) :: .int sp :: qs_tv xa base (.ref a0) :: r.map (qs_tv xa base)))
              rw [e1, e0]
              refine qs_copyi hx hb (hml.trans hl.1.symm) hown (hts _ (qs_in (hok.2 h7) rfl)) (hts _ (qs_in hall.2.1.2.2.2.1 rfl)) (hts _ (qs_in hall.2.1.2.2.2.2.1 rfl)) (hts _ (qs_in hall.2.1.2.2.2.2.2.1 rfl)) (hK.2 0 _ rfl).1 (hK.2 0 _ rfl).1 (hR.2 _ _ hc0) (hR.2 _ _ hc1) hsp hdp hk h.1 h.2 hR1 hloc hdec (fun H1 L hL e2 z o => K H1 _ lsA hl (qs_R_set hR hc1 e2 z o) ?_)
              refine ⟨by rw [z]; exact hS.1, fun q g1 g2 => ?_, fun q hq => ?_⟩
              · rw [o q (fun e => g2 (by rw [e]; exact Nat.le_add_right _ _))]
                exact hS.2.1 q g1 g2
              · rcases List.mem_append.mp hq with h | h
                · exact hS.2.2 q h
                · rw [hL q h]; exact Nat.le_add_right _ _
            · cases hf
          · rename_i n0 f n1 g hc0 hc1
            split at hf
            · rename_i h
              cases hf
              intro H locs lsA hl hR hS
              show W p l e R s m args below meth c H locs cn n Z (F0 m pc lsA (.int k :: .int dp :: qs_tv xa base (.ref a1) :: .int sp :: qs_tv xa base (.ref a0) :: r.map (qs_tv xa base)))
              rw [e1, e0]
              refine qs_copyl hx hb (hml.trans hl.1.symm) hown (hts _ (qs_in (hok.2 h7) rfl)) (hts _ (qs_in hall.2.1.2.2.2.1 rfl)) (hts _ (qs_in hall.2.1.2.2.2.2.1 rfl)) (hts _ (qs_in hall.2.1.2.2.2.2.2.1 rfl)) (hK.2 1 _ rfl).1 (hK.2 1 _ rfl).1 (hR.2 _ _ hc0) (hR.2 _ _ hc1) hsp hdp hk h.1 h.2 hR1 hloc hdec (fun H1 L hL e2 z o => K H1 _ lsA hl (qs_R_set hR hc1 e2 z o) ?_)
              refine ⟨by rw [z]; exact hS.1, fun q g1 g2 => ?_, fun q hq => ?_⟩
              · rw [o q (fun e => g2 (by rw [e]; exact Nat.le_add_right _ _))]
                exact hS.2.1 q g1 g2
              · rcases List.mem_append.mp hq with h | h
                · exact hS.2.2 q h
                · rw [hL q h]; exact Nat.le_add_right _ _
            · cases hf
          · cases hf
        · cases hf
      · cases hf
  | _ => cases hf
end QS4
end
section
/-! calls and returns; from the small machine's judgement to contracts -/
/-- cells outside are rows of numbers, or texts -/
def qs_Xok (X : qm_X) : Prop := ∀ (a : Nat) (ty : FieldType) (mm : Nat) (f : (Nat → Int32) ⊕ (Nat → Int64) ⊕ (Nat → UInt32) ⊕ (Nat → UInt64) ⊕ (Nat → Option Nat)), X.1 a = some (.inl (ty, mm, f)) → ∃ g, f = .inl g
section QS5
variable {xa : Nat → Nat} {base : Nat} {cA : FieldType → ClassId} {D : va_G} {X : qm_X}
variable {p : Program} {l : Launch} {e : Env} {R : Room} {s : State} {m : MethodId} {args : Array Value} {below : List Frame} {meth : Method} {c : Code} {Z : State → Prop} {cc : ByteArray} {nL o : Nat}
theorem qs_alen (hx : p.tables.exec = Jvm.exec) (hb : c.code = cc) (hK : va_K D qx_cl (qs_tys cA) s) (hX : qs_X xa base X s s.heap) (hXo : qs_Xok X) {w : qm_W} {pc cn n : Nat} (ty : FieldType) (mm : Nat) (f : (Nat → Int32) ⊕ (Nat → Int64) ⊕ (Nat → UInt32) ⊕ (Nat → UInt64) ⊕ (Nat → Option Nat)) (a : Nat) (r : List Value) (hcell : qm_cell X w a = some (.inl (ty, mm, f))) (hty : a < 16 ∨ ty = .int ∨ ty = .long ∨ ty = .boolean ∨ ty = .object "OneRoof$Custom") (hdec : decode cc pc = .ok (.arraylength, 1)) (H : Heap) (locs : List Loc) (lsA : Array Slot) (hR : qs_R xa base cA D w H) (hS : va_S (qs_A base) s.heap H locs) (k : W p l e R s m args below meth c H locs cn n Z (F0 m (pc + 1) lsA (.int (Int32.ofNat mm) :: r.map (qs_tv xa base)))) : W p l e R s m args below meth c H locs cn n Z (F0 m pc lsA (qs_tv xa base (.ref a) :: r.map (qs_tv xa base))) := by
  by_cases ha : a < 16
  · rw [qs_cell_lo ha] at hcell
    obtain ⟨g, rfl⟩ := hXo a _ _ _ hcell
    have e1 : qs_tv xa base (.ref a) = .ref (xa a) := by show Value.ref (qs_ad xa base a) = _; rw [qs_ad_lo ha]
    rw [e1]
    exact va_tlen hx hb (hX.1 a mm ty g ha hcell) hS rfl hdec k
  · rw [qs_cell_hi (Nat.le_of_not_lt ha)] at hcell
    have e1 : qs_tv xa base (.ref a) = .ref (base + (a - 16)) := by show Value.ref (qs_ad xa base a) = _; rw [qs_ad_hi (Nat.le_of_not_lt ha)]
    rw [e1]
    rcases hty with h | rfl | rfl | rfl | rfl
    · exact absurd h ha
    · exact va_alen hx hb hK (qs_P1 hR hcell) 0 0 rfl rfl rfl hdec k
    · exact va_alen hx hb hK (qs_P1 hR hcell) 0 1 rfl rfl rfl hdec k
    · exact va_alen hx hb hK (qs_P1 hR hcell) 0 2 rfl rfl rfl hdec k
    · exact va_alen hx hb hK (qs_P1 hR hcell) 0 3 rfl rfl rfl hdec k
/-- behind a call -/
theorem qs_call {H : Heap} {locs : List Loc} {cells slots mc ms pc : Nat} {ls : Array Slot} {st0 rest : List Value} {a : Array Value} {Q : Option Value → qm_W → Prop} (hr : va_Run p l e R s m args below meth c H locs cells slots mc ms (F0 m pc ls st0) rest (qs_Q xa base cA D Q a) (qs_A base)) (hS : va_S (qs_A base) s.heap H locs)
    (kk : ∀ (r : Option Value) (w' : qm_W) (H1 : Heap) (locs1 : List Loc), Q r w' → qs_R xa base cA D w' H1 → va_S (qs_A base) s.heap H1 locs1 → W p l e R s m args below meth c H1 locs1 (cells + mc) (slots + ms) Z (F0 m (pc + 3) ls ((r.map (qs_tv xa base)).toList ++ rest))) : W p l e R s m args below meth c H locs cells slots Z (F0 m pc ls st0) := by
  intro T hT X
  obtain ⟨v, st₀, t, T', L, h0, X', hL, e1, e2, ⟨⟨r, w', hv, hp, hb⟩, hz, hk⟩, st⟩ := hr T hT X
  cases hv
  rw [h0] at hz hk
  obtain ⟨t2, a1, b1⟩ := kk r w' T'.heap (locs ++ L) hp (by rw [e1]; exact hb)
    ⟨Nat.le_trans hS.1 (by rw [e1]; exact hz), fun q h1 h2 => by rw [e1, hk q (Nat.lt_of_lt_of_le h1 hS.1) h2]; exact hS.2.1 q h1 h2, fun q hq => by
      rcases List.mem_append.mp hq with h | h
      · exact hS.2.2 q h
      · exact hL q h⟩ T' rfl X'
  exact ⟨t2, st t2 a1, b1⟩
theorem qs_good (hall : qs_all) {k : Nat} {x : qs_Ent} (hk : 0 < k) (he : qm_ent k = some x) : GoodIn qs_TB (qs_ws x) := by
  intro w hw
  rcases List.mem_cons.mp hw with rfl | hw
  · exact ⟨qs_in (hall.2.2 k x hk he).2.1 rfl, good_of_word rfl⟩
  · exact ⟨hw, good_of_word (List.mem_filter.mp hw).2⟩
theorem qs_split (st : List Value) (n : Nat) : st.map (qs_tv xa base) = (((st.take n).reverse).map (qs_tv xa base)).reverse ++ (st.drop n).map (qs_tv xa base) := by
  rw [← List.map_reverse, List.reverse_reverse, ← List.map_append, List.take_append_drop]
theorem qs_splitR {st : List Value} {n : Nat} {v : Value} (h : st[n]? = some v) : st.map (qs_tv xa base) = (((st.take n).reverse).map (qs_tv xa base)).reverse ++ qs_tv xa base v :: (st.drop (n + 1)).map (qs_tv xa base) := by
  rw [qs_split st n]
  obtain ⟨hn, hv⟩ := List.getElem?_eq_some_iff.mp h
  rw [List.drop_eq_getElem_cons hn, hv]
  rfl
theorem qs_take_len {st : List Value} {n : Nat} (h : n ≤ st.length) : (((st.take n).reverse).map (qs_tv xa base)).length = n := by
  rw [List.length_map, List.length_reverse, List.length_take, Nat.min_eq_left h]
theorem qs_pre (hK : va_K D qx_cl (qs_tys cA) s) (hX : qs_X xa base X s s.heap) {w : qm_W} {H : Heap} {locs : List Loc} (hR : qs_R xa base cA D w H) (hS : va_S (qs_A base) s.heap H locs) {U : State} (hU : U.heap = H) (hW : s.WarmedH U.vm) : qs_B xa base cA D X w U := by
  refine ⟨by rw [hU]; exact hR, va_K.moved hW.alike hK, ?_⟩
  rw [hU]
  exact qs_X_moved hW (qs_X_kept hS.2.1 hX)
set_option maxHeartbeats 4000000 in
set_option maxRecDepth 100000 in
/-- a call of the small machine is one of the machine -/
theorem qs_do (hall : qs_all) (hx : p.tables.exec = Jvm.exec) (hb : c.code = cc) (hml : c.maxLocals = nL) (hown : s.vm.findClass (qx_on o) = some m.cls) (hts : ∀ w ∈ qs_TB, w.before args s = true) (hK : va_K D qx_cl (qs_tys cA) s) (hX : qs_X xa base X s s.heap) {d : Nat} (hR1 : d + 1 ≤ R.frames) (hR2 : 60 * (d + 1) ≤ R.locals)
    {C : Nat → List Value → qm_W → (Option Value → qm_W → Prop) → Prop} (hC : ∀ (k : Nat) (x : qs_Ent) (as : List Value) (w : qm_W) (Q : Option Value → qm_W → Prop), 0 < k → qm_ent k = some x → C k as w Q → Met l x.2.1 (qs_ws x) (qs_rm d x) (va_Pc (as.map (qs_tv xa base)) (qs_B xa base cA D X w)) (qs_Q xa base cA D Q) x.2.2.2.2.2.1 x.2.2.2.2.2.2.1 (qs_A base))
    {M : qm_M} (hM5 : M.2.2.2.2.1 = R.cells) (hM6 : M.2.2.2.2.2 = R.slots) {pc len r1 r2 r3 : Nat} {i : Instr} {rv : Value} (hdec : decode cc pc = .ok (i, len)) (hok : qs_ok o (pc, i, len, r1, r2, r3, rv)) {ls : qm_L} {st : List Value} {w : qm_W} {cn n : Nat} {k : Nat × List Value × Nat × List Value}
    (hf : qm_call X (pc, i, len, r1, r2, r3, rv) st w = some k) (h5 : cn + (qm_bud k.1).1 ≤ M.2.2.2.2.1) (h6 : n + (qm_bud k.1).2 ≤ M.2.2.2.2.2)
    (K : C k.1 k.2.1 w (fun r w' => qs_P xa base cA D p l e R s m args below meth c Z nL (k.2.2.1, ls, r.toList ++ k.2.2.2, w', cn + (qm_bud k.1).1, n + (qm_bud k.1).2))) : qs_P xa base cA D p l e R s m args below meth c Z nL (pc, ls, st, w, cn, n) := by
  have hroom : ∀ (k : Nat) (x : qs_Ent), 0 < k → qm_ent k = some x → (qs_rm d x).frames + 1 ≤ R.frames ∧ 8 + (x.2.2.2.1 + 11) + (qs_rm d x).locals ≤ R.locals := by
    intro k x hk he
    have := (hall.2.2 k x hk he).2.2.2.1
    refine ⟨hR1, ?_⟩
    show 8 + (x.2.2.2.1 + 11) + 60 * d ≤ R.locals
    omega
  have hbud : ∀ (k : Nat) (x : qs_Ent), qm_ent k = some x → qm_bud k = (x.2.2.2.2.2.1, x.2.2.2.2.2.2.1) := by
    intro k x he
    unfold qm_bud
    rw [he]
  cases i with
  | invokevirtual i =>
    simp only [qm_call] at hf
    split at hf
    · rename_i a hst
      split at hf
      · rename_i ci fs hcell
        split at hf
        · rename_i h
          obtain ⟨rfl, h3, rfl, hsm⟩ := h
          cases hf
          obtain ⟨hk0, x, he, hna, hlk, hw1, hw2, hw3, hrc⟩ := hok h3
          have hk0 : 0 < r1 := hk0
          have he : qm_ent r1 = some x := he
          have hM := hC r1 x _ w _ hk0 he K
          have hbd := hbud r1 x he
          intro H locs lsA hl hR hS
          have hn : r2 < st.length := (List.getElem?_eq_some_iff.mp hst).1
          have hrec : ∃ cell : Cell, H[qs_ad xa base a]? = some cell ∧ cell.vm.isStatics = false ∧ s.vm.findClass x.2.1.cls = some cell.cls := by
            by_cases ha : a < 16
            · rw [qs_cell_lo ha] at hcell
              obtain ⟨e13, hO, -, -⟩ := hX.2.1 a _ _ ha hcell
              rw [qs_ad_lo ha]
              obtain ⟨cell, g1, g2, g3, -⟩ := va_O.kept hO hS.2.1
              refine ⟨cell, g1, g2, ?_⟩
              rcases hrc with ⟨-, hrc⟩ | ⟨ci', N, hrv, hci, -⟩
              · rw [hrc]; exact g3
              · have hrv : Value.ref ci = .ref ci' := hrv
                cases hrv
                have hci : ci < 13 := hci
                rw [e13] at hci
                exact absurd hci (by decide)
            · have ha := Nat.le_of_not_lt ha
              rw [qs_cell_hi ha] at hcell
              rw [qs_ad_hi ha]
              rcases hrc with ⟨hrv, -⟩ | ⟨ci', N, hrv, -, hcl⟩
              · have hrv : Value.ref ci = .ref 13 := hrv
                cases hrv
                obtain ⟨rr, hrr, -⟩ := hR.2 _ _ hcell
                cases hrr
              · have hrv : Value.ref ci = .ref ci' := hrv
                cases hrv
                exact va_recv hK (qs_P1 hR hcell) hcl (q0 := 0) rfl
          have hstk : (st.map (qs_tv xa base)) = (((st.take r2).reverse).map (qs_tv xa base)).reverse ++ .ref (qs_ad xa base a) :: (st.drop (r2 + 1)).map (qs_tv xa base) := qs_splitR hst
          have hpre : PreV s H x.2.1.cls (qs_ad xa base a) (va_Pc ((Value.ref a :: (st.take r2).reverse).map (qs_tv xa base)) (qs_B xa base cA D X w)) (((st.take r2).reverse).map (qs_tv xa base)) :=
            ⟨qs_blind, hrec, fun U hU hW => ⟨rfl, qs_pre hK hX hR hS hU hW⟩⟩
          have hcap : cn + x.2.2.2.2.2.1 ≤ R.cells ∧ n + x.2.2.2.2.2.2.1 ≤ R.slots := by rw [hbd] at h5 h6; exact ⟨hM5 ▸ h5, hM6 ▸ h6⟩
          show W p l e R s m args below meth c H locs cn n Z (F0 m pc lsA (st.map (qs_tv xa base)))
          rw [hstk]
          have hcont : ∀ (r : Option Value) (w' : qm_W) (H1 : Heap) (locs1 : List Loc), qs_P xa base cA D p l e R s m args below meth c Z nL (pc + 3, ls, r.toList ++ st.drop (r2 + 1), w', cn + (qm_bud r1).1, n + (qm_bud r1).2) → qs_R xa base cA D w' H1 → va_S (qs_A base) s.heap H1 locs1 → W p l e R s m args below meth c H1 locs1 (cn + x.2.2.2.2.2.1) (n + x.2.2.2.2.2.2.1) Z (F0 m (pc + 3) lsA ((r.map (qs_tv xa base)).toList ++ (st.drop (r2 + 1)).map (qs_tv xa base))) := by
            intro r w' H1 locs1 hP hR1 hS1
            have := hP H1 locs1 lsA hl hR1 hS1
            rw [hbd] at this
            simp only [List.map_append] at this
            have e : (r.toList).map (qs_tv xa base) = (r.map (qs_tv xa base)).toList := by cases r <;> rfl
            rw [e] at this
            exact this
          by_cases h1 : r3 = 1
          · have hlk : qs_link o i x.2.1 (decide (r3 = 1)) := hlk
            rw [decide_eq_true h1] at hlk
            obtain ⟨host, hlk⟩ := hlk
            exact qs_call (va_runVN (As := ((st.take r2).reverse).map (qs_tv xa base)) (rest := (st.drop (r2 + 1)).map (qs_tv xa base)) ⟨hx, hb, hml, hown, hts⟩ hM ⟨va_cnB r2 hts (qs_good hall hk0 he) rfl rfl rfl (hX.2.2.2.2.1 _ hlk) (hts _ (qs_in hw3 rfl)) hna (hroom r1 x hk0 he), hts _ (qs_in hw1 rfl), hts _ (qs_in hw2 rfl)⟩ hpre rfl (qs_take_len (Nat.le_of_lt hn)) hl.1 rfl (lv_room (by rw [qs_sum_map]; exact hsm)) hdec hcap) hS hcont
          · have hlk : qs_link o i x.2.1 (decide (r3 = 1)) := hlk
            rw [decide_eq_false h1] at hlk
            have hlk : Cond.methodLink (qx_on o) i x.2.1 ∈ lw_tbl := hlk
            have hG : GoodIn qs_TB (wsV (qx_on o) i x.2.1.cls x.2.1 (qs_ws x)) := by
              intro w hw
              rcases List.mem_append.mp hw with hw | hw
              · rcases List.mem_cons.mp hw with rfl | hw
                · exact ⟨qs_in hlk rfl, good_of_word rfl⟩
                rcases List.mem_cons.mp hw with rfl | hw
                · exact ⟨qs_in hw1 rfl, good_of_word rfl⟩
                rcases List.mem_cons.mp hw with rfl | hw
                · exact ⟨qs_in hw2 rfl, good_of_word rfl⟩
                rcases List.mem_cons.mp hw with rfl | hw
                · exact ⟨qs_in hw3 rfl, good_of_word rfl⟩
                · cases hw
              · exact qs_good hall hk0 he w hw
            exact qs_call (va_runV (As := ((st.take r2).reverse).map (qs_tv xa base)) (rest := (st.drop (r2 + 1)).map (qs_tv xa base)) ⟨hx, hb, hml, hown, hts⟩ hM (cwV r2 hts hG rfl rfl rfl ⟨rfl, hna⟩ (hroom r1 x hk0 he)) hpre rfl (qs_take_len (Nat.le_of_lt hn)) hl.1 rfl (lv_room (by rw [qs_sum_map]; exact hsm)) hdec hcap) hS hcont
        · cases hf
      · cases hf
    · cases hf
  | invokestatic i =>
    simp only [qm_call] at hf
    split at hf
    · rename_i h
      obtain ⟨rfl, h3, hn, hsm⟩ := h
      cases hf
      obtain ⟨hk0, x, he, hna, hlk, hw1, hw3⟩ := hok.1 h3
      have hk0 : 0 < r1 := hk0
      have he : qm_ent r1 = some x := he
      have hM := hC r1 x _ w _ hk0 he K
      have hbd := hbud r1 x he
      intro H locs lsA hl hR hS
      have hpre : PreS s H (va_Pc (((st.take r2).reverse).map (qs_tv xa base)) (qs_B xa base cA D X w)) (((st.take r2).reverse).map (qs_tv xa base)) :=
        ⟨qs_blind, fun U hU hW => ⟨rfl, qs_pre hK hX hR hS hU hW⟩⟩
      have hcap : cn + x.2.2.2.2.2.1 ≤ R.cells ∧ n + x.2.2.2.2.2.2.1 ≤ R.slots := by rw [hbd] at h5 h6; exact ⟨hM5 ▸ h5, hM6 ▸ h6⟩
      show W p l e R s m args below meth c H locs cn n Z (F0 m pc lsA (st.map (qs_tv xa base)))
      rw [qs_split st r2]
      have hcont : ∀ (r : Option Value) (w' : qm_W) (H1 : Heap) (locs1 : List Loc), qs_P xa base cA D p l e R s m args below meth c Z nL (pc + 3, ls, r.toList ++ st.drop r2, w', cn + (qm_bud r1).1, n + (qm_bud r1).2) → qs_R xa base cA D w' H1 → va_S (qs_A base) s.heap H1 locs1 → W p l e R s m args below meth c H1 locs1 (cn + x.2.2.2.2.2.1) (n + x.2.2.2.2.2.2.1) Z (F0 m (pc + 3) lsA ((r.map (qs_tv xa base)).toList ++ (st.drop r2).map (qs_tv xa base))) := by
        intro r w' H1 locs1 hP hR1 hS1
        have := hP H1 locs1 lsA hl hR1 hS1
        rw [hbd] at this
        simp only [List.map_append] at this
        have e : (r.toList).map (qs_tv xa base) = (r.map (qs_tv xa base)).toList := by cases r <;> rfl
        rw [e] at this
        exact this
      by_cases h1 : r3 = 3
      · have hlk : qs_link o i x.2.1 (decide (r3 = 3)) := hlk
        rw [decide_eq_true h1] at hlk
        obtain ⟨host, hlk⟩ := hlk
        exact qs_call (va_runSN (As := ((st.take r2).reverse).map (qs_tv xa base)) (rest := (st.drop r2).map (qs_tv xa base)) ⟨hx, hb, hml, hown, hts⟩ hM ⟨va_cnB r2 hts (qs_good hall hk0 he) rfl rfl rfl (hX.2.2.2.2.1 _ hlk) (hts _ (qs_in hw3 rfl)) hna (hroom r1 x hk0 he), hts _ (qs_in hw1 rfl), trivial⟩ hpre rfl (qs_take_len hn) hl.1 rfl (lv_room (by rw [qs_sum_map]; exact hsm)) hdec hcap) hS hcont
      · have hlk : qs_link o i x.2.1 (decide (r3 = 3)) := hlk
        rw [decide_eq_false h1] at hlk
        have hlk : Cond.methodLink (qx_on o) i x.2.1 ∈ lw_tbl := hlk
        have hG : GoodIn qs_TB (va_wsS (qx_on o) i x.2.1 (qs_ws x)) := by
          intro w hw
          rcases List.mem_append.mp hw with hw | hw
          · rcases List.mem_cons.mp hw with rfl | hw
            · exact ⟨qs_in hlk rfl, good_of_word rfl⟩
            rcases List.mem_cons.mp hw with rfl | hw
            · exact ⟨qs_in hw1 rfl, good_of_word rfl⟩
            rcases List.mem_cons.mp hw with rfl | hw
            · exact ⟨qs_in hw3 rfl, good_of_word rfl⟩
            · cases hw
          · exact qs_good hall hk0 he w hw
        exact qs_call (va_runS (As := ((st.take r2).reverse).map (qs_tv xa base)) (rest := (st.drop r2).map (qs_tv xa base)) ⟨hx, hb, hml, hown, hts⟩ hM (va_cwS r2 hts hG rfl rfl rfl hna (hroom r1 x hk0 he)) hpre rfl (qs_take_len hn) hl.1 rfl (lv_room (by rw [qs_sum_map]; exact hsm)) hdec hcap) hS hcont
    · cases hf
  | invokespecial i =>
    simp only [qm_call] at hf
    split at hf
    · rename_i a hst
      · split at hf
        · rename_i h
          obtain ⟨rfl, h3, hsm⟩ := h
          cases hf
          obtain ⟨hk0, x, he, hna, hlk, hw1, hw3, hnm, hret⟩ := hok.2 h3
          have hk0 : 0 < r1 := hk0
          have he : qm_ent r1 = some x := he
          have hM := hC r1 x _ w _ hk0 he K
          have hbd := hbud r1 x he
          intro H locs lsA hl hR hS
          have hn : r2 < st.length := (List.getElem?_eq_some_iff.mp hst).1
          have hstk : (st.map (qs_tv xa base)) = (((st.take r2).reverse).map (qs_tv xa base)).reverse ++ .ref (qs_ad xa base a) :: (st.drop (r2 + 1)).map (qs_tv xa base) := qs_splitR hst
          have hpre : PreS s H (va_Pc ((Value.ref a :: (st.take r2).reverse).map (qs_tv xa base)) (qs_B xa base cA D X w)) (.ref (qs_ad xa base a) :: ((st.take r2).reverse).map (qs_tv xa base)) :=
            ⟨qs_blind, fun U hU hW => ⟨rfl, qs_pre hK hX hR hS hU hW⟩⟩
          have hcap : cn + x.2.2.2.2.2.1 ≤ R.cells ∧ n + x.2.2.2.2.2.2.1 ≤ R.slots := by rw [hbd] at h5 h6; exact ⟨hM5 ▸ h5, hM6 ▸ h6⟩
          show W p l e R s m args below meth c H locs cn n Z (F0 m pc lsA (st.map (qs_tv xa base)))
          rw [hstk]
          have hcont : ∀ (r : Option Value) (w' : qm_W) (H1 : Heap) (locs1 : List Loc), qs_P xa base cA D p l e R s m args below meth c Z nL (pc + 3, ls, r.toList ++ st.drop (r2 + 1), w', cn + (qm_bud r1).1, n + (qm_bud r1).2) → qs_R xa base cA D w' H1 → va_S (qs_A base) s.heap H1 locs1 → W p l e R s m args below meth c H1 locs1 (cn + x.2.2.2.2.2.1) (n + x.2.2.2.2.2.2.1) Z (F0 m (pc + 3) lsA ((r.map (qs_tv xa base)).toList ++ (st.drop (r2 + 1)).map (qs_tv xa base))) := by
            intro r w' H1 locs1 hP hR1 hS1
            have := hP H1 locs1 lsA hl hR1 hS1
            rw [hbd] at this
            simp only [List.map_append] at this
            have e : (r.toList).map (qs_tv xa base) = (r.map (qs_tv xa base)).toList := by cases r <;> rfl
            rw [e] at this
            exact this
          have hws : qs_ws x = Cond.code x.2.1 x.2.2.1 x.2.2.2.1 none :: qs_TB := by unfold qs_ws; rw [hret]
          by_cases h1 : r3 = 5
          · have hlk : qs_link o i x.2.1 (decide (r3 = 5)) := hlk
            rw [decide_eq_true h1] at hlk
            obtain ⟨host, hlk⟩ := hlk
            exact qs_call (va_runIN (As := ((st.take r2).reverse).map (qs_tv xa base)) (rest := (st.drop (r2 + 1)).map (qs_tv xa base)) ⟨hx, hb, hml, hown, hts⟩ hM ⟨va_cnB r2 hts (qs_good hall hk0 he) hws rfl rfl (hX.2.2.2.2.1 _ hlk) (hts _ (qs_in hw3 rfl)) hna (hroom r1 x hk0 he), hnm, hts _ (qs_in hw1 rfl)⟩ hpre rfl (qs_take_len (Nat.le_of_lt hn)) hl.1 rfl (lv_room (by rw [qs_sum_map]; exact hsm)) hdec hcap) hS hcont
          · have hlk : qs_link o i x.2.1 (decide (r3 = 5)) := hlk
            rw [decide_eq_false h1] at hlk
            have hlk : Cond.methodLink (qx_on o) i x.2.1 ∈ lw_tbl := hlk
            exact qs_call (va_runI (As := ((st.take r2).reverse).map (qs_tv xa base)) (rest := (st.drop (r2 + 1)).map (qs_tv xa base)) ⟨hx, hb, hml, hown, hts⟩ hM (cwI r2 hts (qs_good hall hk0 he) hws rfl rfl (hts _ (qs_in hw3 rfl)) (hts _ (qs_in hlk rfl)) (hts _ (qs_in hw1 rfl)) hnm hna (hroom r1 x hk0 he)) hpre rfl (qs_take_len (Nat.le_of_lt hn)) hl.1 rfl (lv_room (by rw [qs_sum_map]; exact hsm)) hdec hcap) hS hcont
        · cases hf
    · cases hf
  | _ => cases hf
end QS5
end
section
section QS6
variable {xa : Nat → Nat} {base : Nat} {cA : FieldType → ClassId} {D : va_G} {X : qm_X}
variable {p : Program} {l : Launch} {e : Env} {R : Room} {s : State} {m : MethodId} {args : Array Value} {below : List Frame} {meth : Method} {c : Code} {Z : State → Prop} {cc : ByteArray} {nL o : Nat}
/-- a method's end is one of the machine -/
def qs_ends (xa : Nat → Nat) (base : Nat) (cA : FieldType → ClassId) (D : va_G) (p : Program) (l : Launch) (e : Env) (R : Room) (s : State) (m : MethodId) (args : Array Value) (below : List Frame) (meth : Method) (c : Code) (Z : State → Prop) (cc : ByteArray) (ret : Option FieldType) (Q : Option Value → qm_W → Prop) : Prop :=
  (∀ (x : Int32) (ty : FieldType) (w : qm_W) (cn n pc : Nat) (H : Heap) (locs : List Loc) (lsA : Array Slot), decode cc pc = .ok (.ireturn, 1) → ret = some ty → narrow ty (.int x) = .int x → cn ≤ R.cells → n ≤ R.slots → Q (some (.int x)) w → qs_R xa base cA D w H → va_S (qs_A base) s.heap H locs → W p l e R s m args below meth c H locs cn n Z (F0 m pc lsA [.int x])) ∧
  (∀ (x : Int64) (w : qm_W) (cn n pc : Nat) (H : Heap) (locs : List Loc) (lsA : Array Slot), decode cc pc = .ok (.lreturn, 1) → ret = some .long → cn ≤ R.cells → n ≤ R.slots → Q (some (.long x)) w → qs_R xa base cA D w H → va_S (qs_A base) s.heap H locs → W p l e R s m args below meth c H locs cn n Z (F0 m pc lsA [.long x])) ∧
  (∀ (w : qm_W) (cn n pc : Nat) (H : Heap) (locs : List Loc) (lsA : Array Slot), decode cc pc = .ok (.return_, 1) → ret = none → cn ≤ R.cells → n ≤ R.slots → Q none w → qs_R xa base cA D w H → va_S (qs_A base) s.heap H locs → W p l e R s m args below meth c H locs cn n Z (F0 m pc lsA []))
/-- a body: what the small machine comes to, the machine comes to -/
theorem qs_body (hall : qs_all) (hXo : qs_Xok X) (hx : p.tables.exec = Jvm.exec) (hb : c.code = cc) (hml : c.maxLocals = nL) (hown : s.vm.findClass (qx_on o) = some m.cls) (hts : ∀ w ∈ qs_TB, w.before args s = true) (hK : va_K D qx_cl (qs_tys cA) s) (hX : qs_X xa base X s s.heap) {d : Nat} (hR1 : d + 1 ≤ R.frames) (hR2 : 60 * (d + 1) ≤ R.locals)
    {C : Nat → List Value → qm_W → (Option Value → qm_W → Prop) → Prop} (hC : ∀ (k : Nat) (x : qs_Ent) (as : List Value) (w : qm_W) (Q : Option Value → qm_W → Prop), 0 < k → qm_ent k = some x → C k as w Q → Met l x.2.1 (qs_ws x) (qs_rm d x) (va_Pc (as.map (qs_tv xa base)) (qs_B xa base cA D X w)) (qs_Q xa base cA D Q) x.2.2.2.2.2.1 x.2.2.2.2.2.2.1 (qs_A base))
    {M : qm_M} (hM1 : M.1 = nL) (hinit : M.2.2.1 = true → meth.name = "<init>") (hMo : M.2.2.2.1 = qx_oc o) (hM5 : M.2.2.2.2.1 = R.cells) (hM6 : M.2.2.2.2.2 = R.slots) {cd : qm_C} (hcd : ∀ q ∈ cd, decode cc q.1 = .ok (q.2.1, q.2.2.1) ∧ 0 ≤ (q.1 : Int) + qs_off q.2.1 ∧ qs_ok o q) {Q : Option Value → qm_W → Prop}
    (hend : qs_ends xa base cA D p l e R s m args below meth c Z cc M.2.1 Q) {t : qm_S} (h : qm_wp C qm_bud X M cd Q t) : qs_P xa base cA D p l e R s m args below meth c Z nL t := by
  refine h _ (fun t ht => ?_)
  obtain ⟨pc, ls, st, w, cn, n⟩ := t
  unfold qm_step at ht
  split at ht
  · exact ht.elim
  · rename_i q hq
    have hq : qm_fetch cd pc = some q := hq
    rw [qm_fetch_eq] at hq
    have h1 := List.find?_some hq
    have h2 := List.mem_of_find?_eq_some hq
    have h3 : q.1 = pc := by simpa using h1
    obtain ⟨pc', i, len, r1, r2, r3, rv⟩ := q
    have h3 : pc' = pc := h3
    subst h3
    obtain ⟨hdec, hoff, hok⟩ := hcd _ h2
    split at ht
    · rename_i k hk
      exact qs_do hall hx hb hml hown hts hK hX hR1 hR2 hC hM5 hM6 hdec hok hk ht.1 ht.2.1 ht.2.2
    · split at ht
      · rename_i r hr
        obtain ⟨ht1, ht2, ht3⟩ := ht
        have h5 : cn ≤ R.cells := by rw [← hM5]; exact ht1
        have h6 : n ≤ R.slots := by rw [← hM6]; exact ht2
        cases i with
        | ireturn =>
          simp only [qm_retn] at hr
          split at hr
          · split at hr
            · split at hr
              · rename_i hh
                obtain ⟨rfl, hn⟩ := hh
                cases hr
                intro H locs lsA hl hR hS
                exact hend.1 _ _ w cn n pc' H locs lsA hdec (by assumption) hn h5 h6 ht3 hR hS
              · cases hr
            · cases hr
          · cases hr
        | lreturn =>
          simp only [qm_retn] at hr
          split at hr
          · split at hr
            · rename_i hh
              obtain ⟨rfl, hn⟩ := hh
              cases hr
              intro H locs lsA hl hR hS
              exact hend.2.1 _ w cn n pc' H locs lsA hdec hn h5 h6 ht3 hR hS
            · cases hr
          · cases hr
        | return_ =>
          simp only [qm_retn] at hr
          split at hr
          · split at hr
            · rename_i hh
              obtain ⟨rfl, hn⟩ := hh
              cases hr
              intro H locs lsA hl hR hS
              exact hend.2.2 w cn n pc' H locs lsA hdec hn h5 h6 ht3 hR hS
            · cases hr
          · cases hr
        | _ => cases hr
      · split at ht
        · exact ht.elim
        · rename_i s' hs
          exact qs_go hall hx hb hml hown hts hK hX hM1 hinit hMo hM5 hM6 (by omega) (by omega) hdec hok ⟨_, (Int.toNat_of_nonneg (show 0 ≤ (pc' : Int) + qs_off i from hoff)).symm⟩ (qs_alen hx hb hK hX hXo) hs ht
theorem qs_args (as : List Value) : ∀ i : Nat, lv_args i (as.map (qs_tv xa base)) = qs_tl xa base (lv_args i as) := by
  induction as with
  | nil => intro i; rfl
  | cons v vs ih =>
    intro i
    show (i, qs_tv xa base v) :: lv_args (if (qs_tv xa base v).category = 2 then i + 2 else i + 1) (vs.map (qs_tv xa base)) = _
    rw [qs_tv_cat, ih]
    rfl
theorem qs_sl (as : List Value) : (lg_sl (as.map (qs_tv xa base))).length = (lg_sl as).length := by
  unfold lg_sl
  induction as with
  | nil => rfl
  | cons v vs ih =>
    rw [List.map_cons, List.flatMap_cons, List.flatMap_cons, List.length_append, List.length_append, ih, qs_tv_cat]
    split <;> rfl
theorem qs_ofW {y : MethodName} {ws ws' : List Cond} {rm : Room} {Pc : Array Value → State → Prop} {Qc : Array Value → State → Outcome → State → Prop} {mc ms : Nat} {free : Addr → Prop} {cc : ByteArray} {maxL : Nat} {ret : Option FieldType}
    (hy : plainFor y = true) (hw : ws = Cond.code y cc maxL ret :: ws')
    (body : ∀ p e s m args below meth c s₁, BodyLoose p l y (headSpec ws rm) cc maxL ret e s m args below meth c s₁ → c.maxLocals = maxL → Pc args s →
      W p l e (headSpec ws rm).room s m args below meth c s.heap [] 0 0 (MQ below Qc args s mc ms free) (entryFrame m args maxL)) : Met l y ws rm Pc Qc mc ms free := by
  refine MetFree.of_bodySF (code := cc) (maxLocals := maxL) (ret := ret) hy ?_ ?_
  · intro args s m h hn
    obtain ⟨meth, c, h1, h2, h3, h4, h5, h6, -, -⟩ := Cond.code_spec hn (atoms_spec (ws := ws) h _ (by rw [hw]; exact List.mem_cons_self))
    exact ⟨meth, c, h1, h2, h3, h4, h5, h6⟩
  · intro p e s m args below meth c s₁ B hml hP _
    have hh0 : s₁.heap = s.heap := by rw [B.state]; rfl
    obtain ⟨t, a1, o, b1, b2, b3⟩ := body p e s m args below meth c s₁ B hml hP s₁ hh0 (Stand.of_body B)
    exact ⟨t, o, a1, b1, b2, ⟨b3.1, b3.2⟩⟩
/-- FROM THE SMALL MACHINE TO CONTRACTS -/
theorem qs_met (hall : qs_all) (hXo : qs_Xok X) : ∀ (d k : Nat) (x : qs_Ent) (as : List Value) (w : qm_W) (Q : Option Value → qm_W → Prop), 0 < k → qm_ent k = some x → qm_T X d k as w Q → Met l x.2.1 (qs_ws x) (qs_rm d x) (va_Pc (as.map (qs_tv xa base)) (qs_B xa base cA D X w)) (qs_Q xa base cA D Q) x.2.2.2.2.2.1 x.2.2.2.2.2.2.1 (qs_A base) := by
  intro d
  induction d with
  | zero => intro k x as w Q hk he h; exact h.elim
  | succ d ih =>
    intro k x as w Q hk he h
    unfold qm_T at h
    rw [he] at h
    obtain ⟨hlen, h⟩ := h
    obtain ⟨hpl, hcode, hcls, hmx, hcd⟩ := hall.2.2 k x hk he
    refine qs_ofW (cc := x.2.2.1) (maxL := x.2.2.2.1) (ret := x.2.2.2.2.1) hpl rfl ?_
    intro p e s m args below meth c s₁ B hml hv
    obtain ⟨rfl, hR0, hK, hX⟩ := hv
    have hx := B.exec
    have hb := B.bytes
    have hr := B.returns
    have hts0 := atoms_spec (ws := qs_ws x) B.pre
    have hts : ∀ w ∈ qs_TB, w.before _ s = true := fun w hw => hts0 w (List.mem_cons_of_mem _ hw)
    have hown : s.vm.findClass (qx_on x.1) = some m.cls := by rw [← hcls]; exact findClass_of_methodNamed B.named
    have hlocks := B.notSynchronized
    have hnm : meth.name = x.2.1.name := (name_of_methodNamed B.named B.method).1
    have hl := lv_entry (as.map (qs_tv xa base)) (n := x.2.2.2.1) (by rw [qs_sl]; exact hlen)
    rw [lg_entry_eq]
    rw [qs_args] at hl
    generalize (lg_sl (as.map (qs_tv xa base)) ++ List.replicate (x.2.2.2.1 - (lg_sl (as.map (qs_tv xa base))).length) Slot.unset).toArray = ls at hl ⊢
    have hend : qs_ends xa base cA D p l e (qs_rm (d + 1) x) s m (as.map (qs_tv xa base)).toArray below meth c (MQ below (qs_Q xa base cA D Q) (as.map (qs_tv xa base)).toArray s x.2.2.2.2.2.1 x.2.2.2.2.2.2.1 (qs_A base)) x.2.2.1 x.2.2.2.2.1 Q := by
      refine ⟨fun v ty w cn n pc H locs lsA hd hty hn h1 h2 hQ hR hS => ?_, fun v w cn n pc H locs lsA hd hty h1 h2 hQ hR hS => ?_, fun w cn n pc H locs lsA hd hty h1 h2 hQ hR hS => ?_⟩
      · refine W.widen (k := x.2.2.2.2.2.1) (n := x.2.2.2.2.2.2.1) h1 h2 ?_
        exact W.zret hx hb (hr.trans hty) hn (fun t ht hW => ⟨⟨_, w, rfl, hQ, by rw [ht]; exact hR⟩, hS.F ht⟩) hS.2.2 hd
      · refine W.widen (k := x.2.2.2.2.2.1) (n := x.2.2.2.2.2.2.1) h1 h2 ?_
        exact W.lret hx hb (hr.trans hty) (fun t ht hW => ⟨⟨_, w, rfl, hQ, by rw [ht]; exact hR⟩, hS.F ht⟩) hS.2.2 hd
      · refine W.widen (k := x.2.2.2.2.2.1) (n := x.2.2.2.2.2.2.1) h1 h2 ?_
        exact W.vret hx hb (hr.trans hty) (fun t ht hW => ⟨⟨_, w, rfl, hQ, by rw [ht]; exact hR⟩, hS.F ht⟩) hS.2.2 hd
    exact qs_body (o := x.1) (d := d) hall hXo hx hb hml hown hts hK hX (Nat.le_refl _) (Nat.le_refl _) (fun k x as w Q hk he hC => ih k x as w Q hk he hC) rfl (fun h => by
      have h : decide (x.2.1.name = "<init>") = true := h
      rw [hnm]
      exact of_decide_eq_true h) rfl rfl rfl hcd hend h s.heap [] ls hl hR0 va_S.rf
end QS6
end
section
/-! what decode gives, by walking a method's bytes once. qd_ names. -/
theorem qd_be {α β : Type} {r : Decoder α} {f : α → Decoder β} {code : ByteArray} {p q : Nat} {a : α} (h : r code p = .ok (a, q)) : (r >>= f) code p = f a code q := by
  show Except.bind (r code p) (fun x => f x.1 code x.2) = _
  rw [h]
  rfl
theorem qd_dec {code : ByteArray} {o n : Nat} {i : Instr} (h : Decoder.instr o code o = .ok (i, o + n)) : decode code o = .ok (i, n) := by
  show Except.bind (Decoder.instr o code o) (fun x => Except.ok (x.1, x.2 - o)) = _
  rw [h]
  show Except.ok (i, o + n - o) = _
  rw [Nat.add_sub_cancel_left]
theorem qd_u1 {code : ByteArray} {o : Nat} {b : UInt8} {t : List UInt8} (h : code.data.toList.drop o = b :: t) : (Jvm.ClassFile.Reader.u1 : Decoder Nat) code o = .ok (b.toNat, o + 1) ∧ code.data.toList.drop (o + 1) = t := by
  obtain ⟨⟨l⟩⟩ := code
  have h : l.drop o = b :: t := h
  have hl : o < l.length := by
    refine Nat.lt_of_not_le (fun hn => ?_)
    rw [List.drop_eq_nil_of_le hn] at h
    cases h
  rw [List.drop_eq_getElem_cons hl] at h
  injection h with h1 h2
  refine ⟨?_, h2⟩
  show (if hp : o < l.length then (do set (o + 1); pure (l[o]'hp).toNat : Decoder Nat) else throw _) _ o = _
  rw [dif_pos hl, h1]
  rfl
theorem qd_u2 {code : ByteArray} {p q r a b : Nat} (h1 : (Jvm.ClassFile.Reader.u1 : Decoder Nat) code p = .ok (a, q)) (h2 : (Jvm.ClassFile.Reader.u1 : Decoder Nat) code q = .ok (b, r)) : (Jvm.ClassFile.Reader.u2 : Decoder Nat) code p = .ok (a * 256 + b, r) := (qd_be h1).trans ((qd_be h2).trans rfl)
theorem qd_s1 {code : ByteArray} {p q a : Nat} (h : (Jvm.ClassFile.Reader.u1 : Decoder Nat) code p = .ok (a, q)) : (Jvm.ClassFile.Reader.s1 : Decoder Int) code p = .ok (Jvm.ClassFile.Reader.signed 8 a, q) := by
  show Except.bind ((Jvm.ClassFile.Reader.u1 : Decoder Nat) code p) (fun x => Except.ok (Jvm.ClassFile.Reader.signed 8 x.1, x.2)) = _
  rw [h]
  rfl
theorem qd_s2 {code : ByteArray} {p q r a b : Nat} (h1 : (Jvm.ClassFile.Reader.u1 : Decoder Nat) code p = .ok (a, q)) (h2 : (Jvm.ClassFile.Reader.u1 : Decoder Nat) code q = .ok (b, r)) : (Jvm.ClassFile.Reader.s2 : Decoder Int) code p = .ok (Jvm.ClassFile.Reader.signed 16 (a * 256 + b), r) := by
  show Except.bind ((Jvm.ClassFile.Reader.u2 : Decoder Nat) code p) (fun x => Except.ok (Jvm.ClassFile.Reader.signed 16 x.1, x.2)) = _
  rw [qd_u2 h1 h2]
  rfl
def qd_0 (op : Nat) : List UInt8 → Nat → Bool
  | a :: _, n => Nat.beq a.toNat op && Nat.beq n 1
  | _, _ => false
def qd_1 (op : Nat) (f : Nat → Bool) : List UInt8 → Nat → Bool
  | a :: b :: _, n => Nat.beq a.toNat op && (Nat.beq n 2 && f b.toNat)
  | _, _ => false
def qd_2 (op : Nat) (f : Nat → Nat → Bool) : List UInt8 → Nat → Bool
  | a :: b :: c :: _, n => Nat.beq a.toNat op && (Nat.beq n 3 && f b.toNat c.toNat)
  | _, _ => false
def qd_i (k : Int) : List UInt8 → Nat → Bool
  | a :: _, n => decide ((a.toNat : Int) = k + 3) && (Nat.ble 2 a.toNat && (Nat.ble a.toNat 8 && Nat.beq n 1))
  | _, _ => false
theorem qd_0i {op n o : Nat} {bs : List UInt8} {code : ByteArray} (h : qd_0 op bs n = true) (hb : code.data.toList.drop o = bs) : (Jvm.ClassFile.Reader.u1 : Decoder Nat) code o = .ok (op, o + 1) ∧ n = 1 := by
  cases bs with
  | nil => exact absurd h Bool.false_ne_true
  | cons a t =>
    have h : (Nat.beq a.toNat op && Nat.beq n 1) = true := h
    simp only [Bool.and_eq_true] at h
    have h1 := Nat.eq_of_beq_eq_true h.1
    exact ⟨h1 ▸ (qd_u1 hb).1, Nat.eq_of_beq_eq_true h.2⟩
theorem qd_1i {op n o : Nat} {f : Nat → Bool} {bs : List UInt8} {code : ByteArray} (h : qd_1 op f bs n = true) (hb : code.data.toList.drop o = bs) : ∃ b : Nat, (Jvm.ClassFile.Reader.u1 : Decoder Nat) code o = .ok (op, o + 1) ∧ (Jvm.ClassFile.Reader.u1 : Decoder Nat) code (o + 1) = .ok (b, o + 2) ∧ n = 2 ∧ f b = true := by
  match bs, h, hb with
  | a :: b :: t, h, hb =>
    have h : (Nat.beq a.toNat op && (Nat.beq n 2 && f b.toNat)) = true := h
    simp only [Bool.and_eq_true] at h
    have h1 := Nat.eq_of_beq_eq_true h.1
    have g := qd_u1 hb
    exact ⟨b.toNat, h1 ▸ g.1, (qd_u1 g.2).1, Nat.eq_of_beq_eq_true h.2.1, h.2.2⟩
  | [_], h, _ => exact absurd h Bool.false_ne_true
  | [], h, _ => exact absurd h Bool.false_ne_true
theorem qd_2i {op n o : Nat} {f : Nat → Nat → Bool} {bs : List UInt8} {code : ByteArray} (h : qd_2 op f bs n = true) (hb : code.data.toList.drop o = bs) : ∃ b c : Nat, (Jvm.ClassFile.Reader.u1 : Decoder Nat) code o = .ok (op, o + 1) ∧ (Jvm.ClassFile.Reader.u1 : Decoder Nat) code (o + 1) = .ok (b, o + 2) ∧ (Jvm.ClassFile.Reader.u1 : Decoder Nat) code (o + 2) = .ok (c, o + 3) ∧ n = 3 ∧ f b c = true := by
  match bs, h, hb with
  | a :: b :: c :: t, h, hb =>
    have h : (Nat.beq a.toNat op && (Nat.beq n 3 && f b.toNat c.toNat)) = true := h
    simp only [Bool.and_eq_true] at h
    have h1 := Nat.eq_of_beq_eq_true h.1
    have g := qd_u1 hb
    have g2 := qd_u1 g.2
    exact ⟨b.toNat, c.toNat, h1 ▸ g.1, g2.1, (qd_u1 g2.2).1, Nat.eq_of_beq_eq_true h.2.1, h.2.2⟩
  | [_, _], h, _ => exact absurd h Bool.false_ne_true
  | [_], h, _ => exact absurd h Bool.false_ne_true
  | [], h, _ => exact absurd h Bool.false_ne_true
def qd_cn : Jvm.ClassFile.Cond → Nat
  | .eq => 0
  | .ne => 1
  | .lt => 2
  | .ge => 3
  | .gt => 4
  | .le => 5
def qd_at : Jvm.ClassFile.ArrayType → Nat
  | .boolean => 4
  | .char => 5
  | .float => 6
  | .double => 7
  | .byte => 8
  | .short => 9
  | .int => 10
  | .long => 11
theorem qd_c_aaload {bs : List UInt8} {n : Nat} (h : qd_0 50 bs n = true) {code : ByteArray} {o : Nat} (hb : code.data.toList.drop o = bs) : decode code o = .ok (Instr.aaload, n) := by
  obtain ⟨h0, rfl⟩ := qd_0i h hb
  exact qd_dec ((qd_be h0).trans rfl)
theorem qd_c_aastore {bs : List UInt8} {n : Nat} (h : qd_0 83 bs n = true) {code : ByteArray} {o : Nat} (hb : code.data.toList.drop o = bs) : decode code o = .ok (Instr.aastore, n) := by
  obtain ⟨h0, rfl⟩ := qd_0i h hb
  exact qd_dec ((qd_be h0).trans rfl)
theorem qd_c_arraylength {bs : List UInt8} {n : Nat} (h : qd_0 190 bs n = true) {code : ByteArray} {o : Nat} (hb : code.data.toList.drop o = bs) : decode code o = .ok (Instr.arraylength, n) := by
  obtain ⟨h0, rfl⟩ := qd_0i h hb
  exact qd_dec ((qd_be h0).trans rfl)
theorem qd_c_athrow {bs : List UInt8} {n : Nat} (h : qd_0 191 bs n = true) {code : ByteArray} {o : Nat} (hb : code.data.toList.drop o = bs) : decode code o = .ok (Instr.athrow, n) := by
  obtain ⟨h0, rfl⟩ := qd_0i h hb
  exact qd_dec ((qd_be h0).trans rfl)
theorem qd_c_baload {bs : List UInt8} {n : Nat} (h : qd_0 51 bs n = true) {code : ByteArray} {o : Nat} (hb : code.data.toList.drop o = bs) : decode code o = .ok (Instr.baload, n) := by
  obtain ⟨h0, rfl⟩ := qd_0i h hb
  exact qd_dec ((qd_be h0).trans rfl)
theorem qd_c_bastore {bs : List UInt8} {n : Nat} (h : qd_0 84 bs n = true) {code : ByteArray} {o : Nat} (hb : code.data.toList.drop o = bs) : decode code o = .ok (Instr.bastore, n) := by
  obtain ⟨h0, rfl⟩ := qd_0i h hb
  exact qd_dec ((qd_be h0).trans rfl)
theorem qd_c_dup {bs : List UInt8} {n : Nat} (h : qd_0 89 bs n = true) {code : ByteArray} {o : Nat} (hb : code.data.toList.drop o = bs) : decode code o = .ok (Instr.dup, n) := by
  obtain ⟨h0, rfl⟩ := qd_0i h hb
  exact qd_dec ((qd_be h0).trans rfl)
theorem qd_c_dup2 {bs : List UInt8} {n : Nat} (h : qd_0 92 bs n = true) {code : ByteArray} {o : Nat} (hb : code.data.toList.drop o = bs) : decode code o = .ok (Instr.dup2, n) := by
  obtain ⟨h0, rfl⟩ := qd_0i h hb
  exact qd_dec ((qd_be h0).trans rfl)
theorem qd_c_dup_x1 {bs : List UInt8} {n : Nat} (h : qd_0 90 bs n = true) {code : ByteArray} {o : Nat} (hb : code.data.toList.drop o = bs) : decode code o = .ok (Instr.dup_x1, n) := by
  obtain ⟨h0, rfl⟩ := qd_0i h hb
  exact qd_dec ((qd_be h0).trans rfl)
theorem qd_c_i2b {bs : List UInt8} {n : Nat} (h : qd_0 145 bs n = true) {code : ByteArray} {o : Nat} (hb : code.data.toList.drop o = bs) : decode code o = .ok (Instr.i2b, n) := by
  obtain ⟨h0, rfl⟩ := qd_0i h hb
  exact qd_dec ((qd_be h0).trans rfl)
theorem qd_c_i2c {bs : List UInt8} {n : Nat} (h : qd_0 146 bs n = true) {code : ByteArray} {o : Nat} (hb : code.data.toList.drop o = bs) : decode code o = .ok (Instr.i2c, n) := by
  obtain ⟨h0, rfl⟩ := qd_0i h hb
  exact qd_dec ((qd_be h0).trans rfl)
theorem qd_c_i2l {bs : List UInt8} {n : Nat} (h : qd_0 133 bs n = true) {code : ByteArray} {o : Nat} (hb : code.data.toList.drop o = bs) : decode code o = .ok (Instr.i2l, n) := by
  obtain ⟨h0, rfl⟩ := qd_0i h hb
  exact qd_dec ((qd_be h0).trans rfl)
theorem qd_c_i2s {bs : List UInt8} {n : Nat} (h : qd_0 147 bs n = true) {code : ByteArray} {o : Nat} (hb : code.data.toList.drop o = bs) : decode code o = .ok (Instr.i2s, n) := by
  obtain ⟨h0, rfl⟩ := qd_0i h hb
  exact qd_dec ((qd_be h0).trans rfl)
theorem qd_c_iadd {bs : List UInt8} {n : Nat} (h : qd_0 96 bs n = true) {code : ByteArray} {o : Nat} (hb : code.data.toList.drop o = bs) : decode code o = .ok (Instr.iadd, n) := by
  obtain ⟨h0, rfl⟩ := qd_0i h hb
  exact qd_dec ((qd_be h0).trans rfl)
theorem qd_c_iaload {bs : List UInt8} {n : Nat} (h : qd_0 46 bs n = true) {code : ByteArray} {o : Nat} (hb : code.data.toList.drop o = bs) : decode code o = .ok (Instr.iaload, n) := by
  obtain ⟨h0, rfl⟩ := qd_0i h hb
  exact qd_dec ((qd_be h0).trans rfl)
theorem qd_c_iand {bs : List UInt8} {n : Nat} (h : qd_0 126 bs n = true) {code : ByteArray} {o : Nat} (hb : code.data.toList.drop o = bs) : decode code o = .ok (Instr.iand, n) := by
  obtain ⟨h0, rfl⟩ := qd_0i h hb
  exact qd_dec ((qd_be h0).trans rfl)
theorem qd_c_iastore {bs : List UInt8} {n : Nat} (h : qd_0 79 bs n = true) {code : ByteArray} {o : Nat} (hb : code.data.toList.drop o = bs) : decode code o = .ok (Instr.iastore, n) := by
  obtain ⟨h0, rfl⟩ := qd_0i h hb
  exact qd_dec ((qd_be h0).trans rfl)
theorem qd_c_idiv {bs : List UInt8} {n : Nat} (h : qd_0 108 bs n = true) {code : ByteArray} {o : Nat} (hb : code.data.toList.drop o = bs) : decode code o = .ok (Instr.idiv, n) := by
  obtain ⟨h0, rfl⟩ := qd_0i h hb
  exact qd_dec ((qd_be h0).trans rfl)
theorem qd_c_imul {bs : List UInt8} {n : Nat} (h : qd_0 104 bs n = true) {code : ByteArray} {o : Nat} (hb : code.data.toList.drop o = bs) : decode code o = .ok (Instr.imul, n) := by
  obtain ⟨h0, rfl⟩ := qd_0i h hb
  exact qd_dec ((qd_be h0).trans rfl)
theorem qd_c_ineg {bs : List UInt8} {n : Nat} (h : qd_0 116 bs n = true) {code : ByteArray} {o : Nat} (hb : code.data.toList.drop o = bs) : decode code o = .ok (Instr.ineg, n) := by
  obtain ⟨h0, rfl⟩ := qd_0i h hb
  exact qd_dec ((qd_be h0).trans rfl)
theorem qd_c_ior {bs : List UInt8} {n : Nat} (h : qd_0 128 bs n = true) {code : ByteArray} {o : Nat} (hb : code.data.toList.drop o = bs) : decode code o = .ok (Instr.ior, n) := by
  obtain ⟨h0, rfl⟩ := qd_0i h hb
  exact qd_dec ((qd_be h0).trans rfl)
theorem qd_c_irem {bs : List UInt8} {n : Nat} (h : qd_0 112 bs n = true) {code : ByteArray} {o : Nat} (hb : code.data.toList.drop o = bs) : decode code o = .ok (Instr.irem, n) := by
  obtain ⟨h0, rfl⟩ := qd_0i h hb
  exact qd_dec ((qd_be h0).trans rfl)
theorem qd_c_ireturn {bs : List UInt8} {n : Nat} (h : qd_0 172 bs n = true) {code : ByteArray} {o : Nat} (hb : code.data.toList.drop o = bs) : decode code o = .ok (Instr.ireturn, n) := by
  obtain ⟨h0, rfl⟩ := qd_0i h hb
  exact qd_dec ((qd_be h0).trans rfl)
theorem qd_c_ishl {bs : List UInt8} {n : Nat} (h : qd_0 120 bs n = true) {code : ByteArray} {o : Nat} (hb : code.data.toList.drop o = bs) : decode code o = .ok (Instr.ishl, n) := by
  obtain ⟨h0, rfl⟩ := qd_0i h hb
  exact qd_dec ((qd_be h0).trans rfl)
theorem qd_c_ishr {bs : List UInt8} {n : Nat} (h : qd_0 122 bs n = true) {code : ByteArray} {o : Nat} (hb : code.data.toList.drop o = bs) : decode code o = .ok (Instr.ishr, n) := by
  obtain ⟨h0, rfl⟩ := qd_0i h hb
  exact qd_dec ((qd_be h0).trans rfl)
theorem qd_c_isub {bs : List UInt8} {n : Nat} (h : qd_0 100 bs n = true) {code : ByteArray} {o : Nat} (hb : code.data.toList.drop o = bs) : decode code o = .ok (Instr.isub, n) := by
  obtain ⟨h0, rfl⟩ := qd_0i h hb
  exact qd_dec ((qd_be h0).trans rfl)
theorem qd_c_iushr {bs : List UInt8} {n : Nat} (h : qd_0 124 bs n = true) {code : ByteArray} {o : Nat} (hb : code.data.toList.drop o = bs) : decode code o = .ok (Instr.iushr, n) := by
  obtain ⟨h0, rfl⟩ := qd_0i h hb
  exact qd_dec ((qd_be h0).trans rfl)
theorem qd_c_ixor {bs : List UInt8} {n : Nat} (h : qd_0 130 bs n = true) {code : ByteArray} {o : Nat} (hb : code.data.toList.drop o = bs) : decode code o = .ok (Instr.ixor, n) := by
  obtain ⟨h0, rfl⟩ := qd_0i h hb
  exact qd_dec ((qd_be h0).trans rfl)
theorem qd_c_l2i {bs : List UInt8} {n : Nat} (h : qd_0 136 bs n = true) {code : ByteArray} {o : Nat} (hb : code.data.toList.drop o = bs) : decode code o = .ok (Instr.l2i, n) := by
  obtain ⟨h0, rfl⟩ := qd_0i h hb
  exact qd_dec ((qd_be h0).trans rfl)
theorem qd_c_ladd {bs : List UInt8} {n : Nat} (h : qd_0 97 bs n = true) {code : ByteArray} {o : Nat} (hb : code.data.toList.drop o = bs) : decode code o = .ok (Instr.ladd, n) := by
  obtain ⟨h0, rfl⟩ := qd_0i h hb
  exact qd_dec ((qd_be h0).trans rfl)
theorem qd_c_laload {bs : List UInt8} {n : Nat} (h : qd_0 47 bs n = true) {code : ByteArray} {o : Nat} (hb : code.data.toList.drop o = bs) : decode code o = .ok (Instr.laload, n) := by
  obtain ⟨h0, rfl⟩ := qd_0i h hb
  exact qd_dec ((qd_be h0).trans rfl)
theorem qd_c_land {bs : List UInt8} {n : Nat} (h : qd_0 127 bs n = true) {code : ByteArray} {o : Nat} (hb : code.data.toList.drop o = bs) : decode code o = .ok (Instr.land, n) := by
  obtain ⟨h0, rfl⟩ := qd_0i h hb
  exact qd_dec ((qd_be h0).trans rfl)
theorem qd_c_lastore {bs : List UInt8} {n : Nat} (h : qd_0 80 bs n = true) {code : ByteArray} {o : Nat} (hb : code.data.toList.drop o = bs) : decode code o = .ok (Instr.lastore, n) := by
  obtain ⟨h0, rfl⟩ := qd_0i h hb
  exact qd_dec ((qd_be h0).trans rfl)
theorem qd_c_lcmp {bs : List UInt8} {n : Nat} (h : qd_0 148 bs n = true) {code : ByteArray} {o : Nat} (hb : code.data.toList.drop o = bs) : decode code o = .ok (Instr.lcmp, n) := by
  obtain ⟨h0, rfl⟩ := qd_0i h hb
  exact qd_dec ((qd_be h0).trans rfl)
theorem qd_c_lmul {bs : List UInt8} {n : Nat} (h : qd_0 105 bs n = true) {code : ByteArray} {o : Nat} (hb : code.data.toList.drop o = bs) : decode code o = .ok (Instr.lmul, n) := by
  obtain ⟨h0, rfl⟩ := qd_0i h hb
  exact qd_dec ((qd_be h0).trans rfl)
theorem qd_c_lor {bs : List UInt8} {n : Nat} (h : qd_0 129 bs n = true) {code : ByteArray} {o : Nat} (hb : code.data.toList.drop o = bs) : decode code o = .ok (Instr.lor, n) := by
  obtain ⟨h0, rfl⟩ := qd_0i h hb
  exact qd_dec ((qd_be h0).trans rfl)
theorem qd_c_lreturn {bs : List UInt8} {n : Nat} (h : qd_0 173 bs n = true) {code : ByteArray} {o : Nat} (hb : code.data.toList.drop o = bs) : decode code o = .ok (Instr.lreturn, n) := by
  obtain ⟨h0, rfl⟩ := qd_0i h hb
  exact qd_dec ((qd_be h0).trans rfl)
theorem qd_c_lshl {bs : List UInt8} {n : Nat} (h : qd_0 121 bs n = true) {code : ByteArray} {o : Nat} (hb : code.data.toList.drop o = bs) : decode code o = .ok (Instr.lshl, n) := by
  obtain ⟨h0, rfl⟩ := qd_0i h hb
  exact qd_dec ((qd_be h0).trans rfl)
theorem qd_c_lshr {bs : List UInt8} {n : Nat} (h : qd_0 123 bs n = true) {code : ByteArray} {o : Nat} (hb : code.data.toList.drop o = bs) : decode code o = .ok (Instr.lshr, n) := by
  obtain ⟨h0, rfl⟩ := qd_0i h hb
  exact qd_dec ((qd_be h0).trans rfl)
theorem qd_c_lsub {bs : List UInt8} {n : Nat} (h : qd_0 101 bs n = true) {code : ByteArray} {o : Nat} (hb : code.data.toList.drop o = bs) : decode code o = .ok (Instr.lsub, n) := by
  obtain ⟨h0, rfl⟩ := qd_0i h hb
  exact qd_dec ((qd_be h0).trans rfl)
theorem qd_c_lushr {bs : List UInt8} {n : Nat} (h : qd_0 125 bs n = true) {code : ByteArray} {o : Nat} (hb : code.data.toList.drop o = bs) : decode code o = .ok (Instr.lushr, n) := by
  obtain ⟨h0, rfl⟩ := qd_0i h hb
  exact qd_dec ((qd_be h0).trans rfl)
theorem qd_c_lxor {bs : List UInt8} {n : Nat} (h : qd_0 131 bs n = true) {code : ByteArray} {o : Nat} (hb : code.data.toList.drop o = bs) : decode code o = .ok (Instr.lxor, n) := by
  obtain ⟨h0, rfl⟩ := qd_0i h hb
  exact qd_dec ((qd_be h0).trans rfl)
theorem qd_c_pop {bs : List UInt8} {n : Nat} (h : qd_0 87 bs n = true) {code : ByteArray} {o : Nat} (hb : code.data.toList.drop o = bs) : decode code o = .ok (Instr.pop, n) := by
  obtain ⟨h0, rfl⟩ := qd_0i h hb
  exact qd_dec ((qd_be h0).trans rfl)
theorem qd_c_pop2 {bs : List UInt8} {n : Nat} (h : qd_0 88 bs n = true) {code : ByteArray} {o : Nat} (hb : code.data.toList.drop o = bs) : decode code o = .ok (Instr.pop2, n) := by
  obtain ⟨h0, rfl⟩ := qd_0i h hb
  exact qd_dec ((qd_be h0).trans rfl)
theorem qd_c_return_ {bs : List UInt8} {n : Nat} (h : qd_0 177 bs n = true) {code : ByteArray} {o : Nat} (hb : code.data.toList.drop o = bs) : decode code o = .ok (Instr.return_, n) := by
  obtain ⟨h0, rfl⟩ := qd_0i h hb
  exact qd_dec ((qd_be h0).trans rfl)
theorem qd_c_aload_n (k : Fin 4) {bs : List UInt8} {n : Nat} (h : qd_0 (42 + k.val) bs n = true) {code : ByteArray} {o : Nat} (hb : code.data.toList.drop o = bs) : decode code o = .ok (Instr.aload_n k, n) := by
  obtain ⟨h0, rfl⟩ := qd_0i h hb
  obtain ⟨v, hv⟩ := k
  have hc : v = 0 ∨ v = 1 ∨ v = 2 ∨ v = 3 := by omega
  rcases hc with rfl | rfl | rfl | rfl
  · exact qd_dec ((qd_be (show (Jvm.ClassFile.Reader.u1 : Decoder Nat) code o = .ok (42, o + 1) from h0)).trans rfl)
  · exact qd_dec ((qd_be (show (Jvm.ClassFile.Reader.u1 : Decoder Nat) code o = .ok (43, o + 1) from h0)).trans rfl)
  · exact qd_dec ((qd_be (show (Jvm.ClassFile.Reader.u1 : Decoder Nat) code o = .ok (44, o + 1) from h0)).trans rfl)
  · exact qd_dec ((qd_be (show (Jvm.ClassFile.Reader.u1 : Decoder Nat) code o = .ok (45, o + 1) from h0)).trans rfl)
theorem qd_c_astore_n (k : Fin 4) {bs : List UInt8} {n : Nat} (h : qd_0 (75 + k.val) bs n = true) {code : ByteArray} {o : Nat} (hb : code.data.toList.drop o = bs) : decode code o = .ok (Instr.astore_n k, n) := by
  obtain ⟨h0, rfl⟩ := qd_0i h hb
  obtain ⟨v, hv⟩ := k
  have hc : v = 0 ∨ v = 1 ∨ v = 2 ∨ v = 3 := by omega
  rcases hc with rfl | rfl | rfl | rfl
  · exact qd_dec ((qd_be (show (Jvm.ClassFile.Reader.u1 : Decoder Nat) code o = .ok (75, o + 1) from h0)).trans rfl)
  · exact qd_dec ((qd_be (show (Jvm.ClassFile.Reader.u1 : Decoder Nat) code o = .ok (76, o + 1) from h0)).trans rfl)
  · exact qd_dec ((qd_be (show (Jvm.ClassFile.Reader.u1 : Decoder Nat) code o = .ok (77, o + 1) from h0)).trans rfl)
  · exact qd_dec ((qd_be (show (Jvm.ClassFile.Reader.u1 : Decoder Nat) code o = .ok (78, o + 1) from h0)).trans rfl)
theorem qd_c_iload_n (k : Fin 4) {bs : List UInt8} {n : Nat} (h : qd_0 (26 + k.val) bs n = true) {code : ByteArray} {o : Nat} (hb : code.data.toList.drop o = bs) : decode code o = .ok (Instr.iload_n k, n) := by
  obtain ⟨h0, rfl⟩ := qd_0i h hb
  obtain ⟨v, hv⟩ := k
  have hc : v = 0 ∨ v = 1 ∨ v = 2 ∨ v = 3 := by omega
  rcases hc with rfl | rfl | rfl | rfl
  · exact qd_dec ((qd_be (show (Jvm.ClassFile.Reader.u1 : Decoder Nat) code o = .ok (26, o + 1) from h0)).trans rfl)
  · exact qd_dec ((qd_be (show (Jvm.ClassFile.Reader.u1 : Decoder Nat) code o = .ok (27, o + 1) from h0)).trans rfl)
  · exact qd_dec ((qd_be (show (Jvm.ClassFile.Reader.u1 : Decoder Nat) code o = .ok (28, o + 1) from h0)).trans rfl)
  · exact qd_dec ((qd_be (show (Jvm.ClassFile.Reader.u1 : Decoder Nat) code o = .ok (29, o + 1) from h0)).trans rfl)
theorem qd_c_istore_n (k : Fin 4) {bs : List UInt8} {n : Nat} (h : qd_0 (59 + k.val) bs n = true) {code : ByteArray} {o : Nat} (hb : code.data.toList.drop o = bs) : decode code o = .ok (Instr.istore_n k, n) := by
  obtain ⟨h0, rfl⟩ := qd_0i h hb
  obtain ⟨v, hv⟩ := k
  have hc : v = 0 ∨ v = 1 ∨ v = 2 ∨ v = 3 := by omega
  rcases hc with rfl | rfl | rfl | rfl
  · exact qd_dec ((qd_be (show (Jvm.ClassFile.Reader.u1 : Decoder Nat) code o = .ok (59, o + 1) from h0)).trans rfl)
  · exact qd_dec ((qd_be (show (Jvm.ClassFile.Reader.u1 : Decoder Nat) code o = .ok (60, o + 1) from h0)).trans rfl)
  · exact qd_dec ((qd_be (show (Jvm.ClassFile.Reader.u1 : Decoder Nat) code o = .ok (61, o + 1) from h0)).trans rfl)
  · exact qd_dec ((qd_be (show (Jvm.ClassFile.Reader.u1 : Decoder Nat) code o = .ok (62, o + 1) from h0)).trans rfl)
theorem qd_c_lload_n (k : Fin 4) {bs : List UInt8} {n : Nat} (h : qd_0 (30 + k.val) bs n = true) {code : ByteArray} {o : Nat} (hb : code.data.toList.drop o = bs) : decode code o = .ok (Instr.lload_n k, n) := by
  obtain ⟨h0, rfl⟩ := qd_0i h hb
  obtain ⟨v, hv⟩ := k
  have hc : v = 0 ∨ v = 1 ∨ v = 2 ∨ v = 3 := by omega
  rcases hc with rfl | rfl | rfl | rfl
  · exact qd_dec ((qd_be (show (Jvm.ClassFile.Reader.u1 : Decoder Nat) code o = .ok (30, o + 1) from h0)).trans rfl)
  · exact qd_dec ((qd_be (show (Jvm.ClassFile.Reader.u1 : Decoder Nat) code o = .ok (31, o + 1) from h0)).trans rfl)
  · exact qd_dec ((qd_be (show (Jvm.ClassFile.Reader.u1 : Decoder Nat) code o = .ok (32, o + 1) from h0)).trans rfl)
  · exact qd_dec ((qd_be (show (Jvm.ClassFile.Reader.u1 : Decoder Nat) code o = .ok (33, o + 1) from h0)).trans rfl)
theorem qd_c_lstore_n (k : Fin 4) {bs : List UInt8} {n : Nat} (h : qd_0 (63 + k.val) bs n = true) {code : ByteArray} {o : Nat} (hb : code.data.toList.drop o = bs) : decode code o = .ok (Instr.lstore_n k, n) := by
  obtain ⟨h0, rfl⟩ := qd_0i h hb
  obtain ⟨v, hv⟩ := k
  have hc : v = 0 ∨ v = 1 ∨ v = 2 ∨ v = 3 := by omega
  rcases hc with rfl | rfl | rfl | rfl
  · exact qd_dec ((qd_be (show (Jvm.ClassFile.Reader.u1 : Decoder Nat) code o = .ok (63, o + 1) from h0)).trans rfl)
  · exact qd_dec ((qd_be (show (Jvm.ClassFile.Reader.u1 : Decoder Nat) code o = .ok (64, o + 1) from h0)).trans rfl)
  · exact qd_dec ((qd_be (show (Jvm.ClassFile.Reader.u1 : Decoder Nat) code o = .ok (65, o + 1) from h0)).trans rfl)
  · exact qd_dec ((qd_be (show (Jvm.ClassFile.Reader.u1 : Decoder Nat) code o = .ok (66, o + 1) from h0)).trans rfl)
theorem qd_c_lconst (k : Fin 2) {bs : List UInt8} {n : Nat} (h : qd_0 (9 + k.val) bs n = true) {code : ByteArray} {o : Nat} (hb : code.data.toList.drop o = bs) : decode code o = .ok (Instr.lconst k, n) := by
  obtain ⟨h0, rfl⟩ := qd_0i h hb
  obtain ⟨v, hv⟩ := k
  have hc : v = 0 ∨ v = 1 := by omega
  rcases hc with rfl | rfl
  · exact qd_dec ((qd_be (show (Jvm.ClassFile.Reader.u1 : Decoder Nat) code o = .ok (9, o + 1) from h0)).trans rfl)
  · exact qd_dec ((qd_be (show (Jvm.ClassFile.Reader.u1 : Decoder Nat) code o = .ok (10, o + 1) from h0)).trans rfl)
theorem qd_c_aload (k : Nat) {bs : List UInt8} {n : Nat} (h : (qd_1 25 (fun b => Nat.beq b k)) bs n = true) {code : ByteArray} {o : Nat} (hb : code.data.toList.drop o = bs) : decode code o = .ok (Instr.aload k, n) := by
  obtain ⟨b, h0, h1, rfl, hf⟩ := qd_1i h hb
  have e : b = k := Nat.eq_of_beq_eq_true hf
  subst e
  exact qd_dec ((qd_be h0).trans ((qd_be h1).trans rfl))
theorem qd_c_astore (k : Nat) {bs : List UInt8} {n : Nat} (h : (qd_1 58 (fun b => Nat.beq b k)) bs n = true) {code : ByteArray} {o : Nat} (hb : code.data.toList.drop o = bs) : decode code o = .ok (Instr.astore k, n) := by
  obtain ⟨b, h0, h1, rfl, hf⟩ := qd_1i h hb
  have e : b = k := Nat.eq_of_beq_eq_true hf
  subst e
  exact qd_dec ((qd_be h0).trans ((qd_be h1).trans rfl))
theorem qd_c_iload (k : Nat) {bs : List UInt8} {n : Nat} (h : (qd_1 21 (fun b => Nat.beq b k)) bs n = true) {code : ByteArray} {o : Nat} (hb : code.data.toList.drop o = bs) : decode code o = .ok (Instr.iload k, n) := by
  obtain ⟨b, h0, h1, rfl, hf⟩ := qd_1i h hb
  have e : b = k := Nat.eq_of_beq_eq_true hf
  subst e
  exact qd_dec ((qd_be h0).trans ((qd_be h1).trans rfl))
theorem qd_c_istore (k : Nat) {bs : List UInt8} {n : Nat} (h : (qd_1 54 (fun b => Nat.beq b k)) bs n = true) {code : ByteArray} {o : Nat} (hb : code.data.toList.drop o = bs) : decode code o = .ok (Instr.istore k, n) := by
  obtain ⟨b, h0, h1, rfl, hf⟩ := qd_1i h hb
  have e : b = k := Nat.eq_of_beq_eq_true hf
  subst e
  exact qd_dec ((qd_be h0).trans ((qd_be h1).trans rfl))
theorem qd_c_lload (k : Nat) {bs : List UInt8} {n : Nat} (h : (qd_1 22 (fun b => Nat.beq b k)) bs n = true) {code : ByteArray} {o : Nat} (hb : code.data.toList.drop o = bs) : decode code o = .ok (Instr.lload k, n) := by
  obtain ⟨b, h0, h1, rfl, hf⟩ := qd_1i h hb
  have e : b = k := Nat.eq_of_beq_eq_true hf
  subst e
  exact qd_dec ((qd_be h0).trans ((qd_be h1).trans rfl))
theorem qd_c_lstore (k : Nat) {bs : List UInt8} {n : Nat} (h : (qd_1 55 (fun b => Nat.beq b k)) bs n = true) {code : ByteArray} {o : Nat} (hb : code.data.toList.drop o = bs) : decode code o = .ok (Instr.lstore k, n) := by
  obtain ⟨b, h0, h1, rfl, hf⟩ := qd_1i h hb
  have e : b = k := Nat.eq_of_beq_eq_true hf
  subst e
  exact qd_dec ((qd_be h0).trans ((qd_be h1).trans rfl))
theorem qd_c_ldc (k : Nat) {bs : List UInt8} {n : Nat} (h : (qd_1 18 (fun b => Nat.beq b k)) bs n = true) {code : ByteArray} {o : Nat} (hb : code.data.toList.drop o = bs) : decode code o = .ok (Instr.ldc k, n) := by
  obtain ⟨b, h0, h1, rfl, hf⟩ := qd_1i h hb
  have e : b = k := Nat.eq_of_beq_eq_true hf
  subst e
  exact qd_dec ((qd_be h0).trans ((qd_be h1).trans rfl))
theorem qd_c_getfield (k : Nat) {bs : List UInt8} {n : Nat} (h : (qd_2 180 (fun b c => Nat.beq (b * 256 + c) k)) bs n = true) {code : ByteArray} {o : Nat} (hb : code.data.toList.drop o = bs) : decode code o = .ok (Instr.getfield k, n) := by
  obtain ⟨b, c, h0, h1, h2, rfl, hf⟩ := qd_2i h hb
  have e : b * 256 + c = k := Nat.eq_of_beq_eq_true hf
  subst e
  exact qd_dec ((qd_be h0).trans ((qd_be (qd_u2 h1 h2)).trans rfl))
theorem qd_c_putfield (k : Nat) {bs : List UInt8} {n : Nat} (h : (qd_2 181 (fun b c => Nat.beq (b * 256 + c) k)) bs n = true) {code : ByteArray} {o : Nat} (hb : code.data.toList.drop o = bs) : decode code o = .ok (Instr.putfield k, n) := by
  obtain ⟨b, c, h0, h1, h2, rfl, hf⟩ := qd_2i h hb
  have e : b * 256 + c = k := Nat.eq_of_beq_eq_true hf
  subst e
  exact qd_dec ((qd_be h0).trans ((qd_be (qd_u2 h1 h2)).trans rfl))
theorem qd_c_getstatic (k : Nat) {bs : List UInt8} {n : Nat} (h : (qd_2 178 (fun b c => Nat.beq (b * 256 + c) k)) bs n = true) {code : ByteArray} {o : Nat} (hb : code.data.toList.drop o = bs) : decode code o = .ok (Instr.getstatic k, n) := by
  obtain ⟨b, c, h0, h1, h2, rfl, hf⟩ := qd_2i h hb
  have e : b * 256 + c = k := Nat.eq_of_beq_eq_true hf
  subst e
  exact qd_dec ((qd_be h0).trans ((qd_be (qd_u2 h1 h2)).trans rfl))
theorem qd_c_invokespecial (k : Nat) {bs : List UInt8} {n : Nat} (h : (qd_2 183 (fun b c => Nat.beq (b * 256 + c) k)) bs n = true) {code : ByteArray} {o : Nat} (hb : code.data.toList.drop o = bs) : decode code o = .ok (Instr.invokespecial k, n) := by
  obtain ⟨b, c, h0, h1, h2, rfl, hf⟩ := qd_2i h hb
  have e : b * 256 + c = k := Nat.eq_of_beq_eq_true hf
  subst e
  exact qd_dec ((qd_be h0).trans ((qd_be (qd_u2 h1 h2)).trans rfl))
theorem qd_c_invokestatic (k : Nat) {bs : List UInt8} {n : Nat} (h : (qd_2 184 (fun b c => Nat.beq (b * 256 + c) k)) bs n = true) {code : ByteArray} {o : Nat} (hb : code.data.toList.drop o = bs) : decode code o = .ok (Instr.invokestatic k, n) := by
  obtain ⟨b, c, h0, h1, h2, rfl, hf⟩ := qd_2i h hb
  have e : b * 256 + c = k := Nat.eq_of_beq_eq_true hf
  subst e
  exact qd_dec ((qd_be h0).trans ((qd_be (qd_u2 h1 h2)).trans rfl))
theorem qd_c_invokevirtual (k : Nat) {bs : List UInt8} {n : Nat} (h : (qd_2 182 (fun b c => Nat.beq (b * 256 + c) k)) bs n = true) {code : ByteArray} {o : Nat} (hb : code.data.toList.drop o = bs) : decode code o = .ok (Instr.invokevirtual k, n) := by
  obtain ⟨b, c, h0, h1, h2, rfl, hf⟩ := qd_2i h hb
  have e : b * 256 + c = k := Nat.eq_of_beq_eq_true hf
  subst e
  exact qd_dec ((qd_be h0).trans ((qd_be (qd_u2 h1 h2)).trans rfl))
theorem qd_c_new (k : Nat) {bs : List UInt8} {n : Nat} (h : (qd_2 187 (fun b c => Nat.beq (b * 256 + c) k)) bs n = true) {code : ByteArray} {o : Nat} (hb : code.data.toList.drop o = bs) : decode code o = .ok (Instr.new k, n) := by
  obtain ⟨b, c, h0, h1, h2, rfl, hf⟩ := qd_2i h hb
  have e : b * 256 + c = k := Nat.eq_of_beq_eq_true hf
  subst e
  exact qd_dec ((qd_be h0).trans ((qd_be (qd_u2 h1 h2)).trans rfl))
theorem qd_c_anewarray (k : Nat) {bs : List UInt8} {n : Nat} (h : (qd_2 189 (fun b c => Nat.beq (b * 256 + c) k)) bs n = true) {code : ByteArray} {o : Nat} (hb : code.data.toList.drop o = bs) : decode code o = .ok (Instr.anewarray k, n) := by
  obtain ⟨b, c, h0, h1, h2, rfl, hf⟩ := qd_2i h hb
  have e : b * 256 + c = k := Nat.eq_of_beq_eq_true hf
  subst e
  exact qd_dec ((qd_be h0).trans ((qd_be (qd_u2 h1 h2)).trans rfl))
theorem qd_c_ldc_w (k : Nat) {bs : List UInt8} {n : Nat} (h : (qd_2 19 (fun b c => Nat.beq (b * 256 + c) k)) bs n = true) {code : ByteArray} {o : Nat} (hb : code.data.toList.drop o = bs) : decode code o = .ok (Instr.ldc_w k, n) := by
  obtain ⟨b, c, h0, h1, h2, rfl, hf⟩ := qd_2i h hb
  have e : b * 256 + c = k := Nat.eq_of_beq_eq_true hf
  subst e
  exact qd_dec ((qd_be h0).trans ((qd_be (qd_u2 h1 h2)).trans rfl))
theorem qd_c_ldc2_w (k : Nat) {bs : List UInt8} {n : Nat} (h : (qd_2 20 (fun b c => Nat.beq (b * 256 + c) k)) bs n = true) {code : ByteArray} {o : Nat} (hb : code.data.toList.drop o = bs) : decode code o = .ok (Instr.ldc2_w k, n) := by
  obtain ⟨b, c, h0, h1, h2, rfl, hf⟩ := qd_2i h hb
  have e : b * 256 + c = k := Nat.eq_of_beq_eq_true hf
  subst e
  exact qd_dec ((qd_be h0).trans ((qd_be (qd_u2 h1 h2)).trans rfl))
theorem qd_c_bipush (k : Int) {bs : List UInt8} {n : Nat} (h : (qd_1 16 (fun b => decide (Jvm.ClassFile.Reader.signed 8 b = k))) bs n = true) {code : ByteArray} {o : Nat} (hb : code.data.toList.drop o = bs) : decode code o = .ok (Instr.bipush k, n) := by
  obtain ⟨b, h0, h1, rfl, hf⟩ := qd_1i h hb
  have e : Jvm.ClassFile.Reader.signed 8 b = k := of_decide_eq_true hf
  subst e
  exact qd_dec ((qd_be h0).trans ((qd_be (qd_s1 h1)).trans rfl))
theorem qd_c_goto (k : Int) {bs : List UInt8} {n : Nat} (h : (qd_2 167 (fun b c => decide (Jvm.ClassFile.Reader.signed 16 (b * 256 + c) = k))) bs n = true) {code : ByteArray} {o : Nat} (hb : code.data.toList.drop o = bs) : decode code o = .ok (Instr.goto k, n) := by
  obtain ⟨b, c, h0, h1, h2, rfl, hf⟩ := qd_2i h hb
  have e : Jvm.ClassFile.Reader.signed 16 (b * 256 + c) = k := of_decide_eq_true hf
  subst e
  exact qd_dec ((qd_be h0).trans ((qd_be (qd_s2 h1 h2)).trans rfl))
theorem qd_c_sipush (k : Int) {bs : List UInt8} {n : Nat} (h : (qd_2 17 (fun b c => decide (Jvm.ClassFile.Reader.signed 16 (b * 256 + c) = k))) bs n = true) {code : ByteArray} {o : Nat} (hb : code.data.toList.drop o = bs) : decode code o = .ok (Instr.sipush k, n) := by
  obtain ⟨b, c, h0, h1, h2, rfl, hf⟩ := qd_2i h hb
  have e : Jvm.ClassFile.Reader.signed 16 (b * 256 + c) = k := of_decide_eq_true hf
  subst e
  exact qd_dec ((qd_be h0).trans ((qd_be (qd_s2 h1 h2)).trans rfl))
theorem qd_c_ifCond (j : Jvm.ClassFile.Cond) (k : Int) {bs : List UInt8} {n : Nat} (h : (qd_2 (153 + qd_cn j) (fun b c => decide (Jvm.ClassFile.Reader.signed 16 (b * 256 + c) = k))) bs n = true) {code : ByteArray} {o : Nat} (hb : code.data.toList.drop o = bs) : decode code o = .ok (Instr.ifCond j k, n) := by
  obtain ⟨b, c, h0, h1, h2, rfl, hf⟩ := qd_2i h hb
  have e : Jvm.ClassFile.Reader.signed 16 (b * 256 + c) = k := of_decide_eq_true hf
  subst e
  cases j with
  | eq => exact qd_dec ((qd_be (show (Jvm.ClassFile.Reader.u1 : Decoder Nat) code o = .ok (153, o + 1) from h0)).trans ((qd_be (qd_s2 h1 h2)).trans rfl))
  | ne => exact qd_dec ((qd_be (show (Jvm.ClassFile.Reader.u1 : Decoder Nat) code o = .ok (154, o + 1) from h0)).trans ((qd_be (qd_s2 h1 h2)).trans rfl))
  | lt => exact qd_dec ((qd_be (show (Jvm.ClassFile.Reader.u1 : Decoder Nat) code o = .ok (155, o + 1) from h0)).trans ((qd_be (qd_s2 h1 h2)).trans rfl))
  | ge => exact qd_dec ((qd_be (show (Jvm.ClassFile.Reader.u1 : Decoder Nat) code o = .ok (156, o + 1) from h0)).trans ((qd_be (qd_s2 h1 h2)).trans rfl))
  | gt => exact qd_dec ((qd_be (show (Jvm.ClassFile.Reader.u1 : Decoder Nat) code o = .ok (157, o + 1) from h0)).trans ((qd_be (qd_s2 h1 h2)).trans rfl))
  | le => exact qd_dec ((qd_be (show (Jvm.ClassFile.Reader.u1 : Decoder Nat) code o = .ok (158, o + 1) from h0)).trans ((qd_be (qd_s2 h1 h2)).trans rfl))
theorem qd_c_if_icmp (j : Jvm.ClassFile.Cond) (k : Int) {bs : List UInt8} {n : Nat} (h : (qd_2 (159 + qd_cn j) (fun b c => decide (Jvm.ClassFile.Reader.signed 16 (b * 256 + c) = k))) bs n = true) {code : ByteArray} {o : Nat} (hb : code.data.toList.drop o = bs) : decode code o = .ok (Instr.if_icmp j k, n) := by
  obtain ⟨b, c, h0, h1, h2, rfl, hf⟩ := qd_2i h hb
  have e : Jvm.ClassFile.Reader.signed 16 (b * 256 + c) = k := of_decide_eq_true hf
  subst e
  cases j with
  | eq => exact qd_dec ((qd_be (show (Jvm.ClassFile.Reader.u1 : Decoder Nat) code o = .ok (159, o + 1) from h0)).trans ((qd_be (qd_s2 h1 h2)).trans rfl))
  | ne => exact qd_dec ((qd_be (show (Jvm.ClassFile.Reader.u1 : Decoder Nat) code o = .ok (160, o + 1) from h0)).trans ((qd_be (qd_s2 h1 h2)).trans rfl))
  | lt => exact qd_dec ((qd_be (show (Jvm.ClassFile.Reader.u1 : Decoder Nat) code o = .ok (161, o + 1) from h0)).trans ((qd_be (qd_s2 h1 h2)).trans rfl))
  | ge => exact qd_dec ((qd_be (show (Jvm.ClassFile.Reader.u1 : Decoder Nat) code o = .ok (162, o + 1) from h0)).trans ((qd_be (qd_s2 h1 h2)).trans rfl))
  | gt => exact qd_dec ((qd_be (show (Jvm.ClassFile.Reader.u1 : Decoder Nat) code o = .ok (163, o + 1) from h0)).trans ((qd_be (qd_s2 h1 h2)).trans rfl))
  | le => exact qd_dec ((qd_be (show (Jvm.ClassFile.Reader.u1 : Decoder Nat) code o = .ok (164, o + 1) from h0)).trans ((qd_be (qd_s2 h1 h2)).trans rfl))
theorem qd_c_iinc (j : Nat) (k : Int) {bs : List UInt8} {n : Nat} (h : (qd_2 132 (fun b c => Nat.beq b j && decide (Jvm.ClassFile.Reader.signed 8 c = k))) bs n = true) {code : ByteArray} {o : Nat} (hb : code.data.toList.drop o = bs) : decode code o = .ok (Instr.iinc j k, n) := by
  obtain ⟨b, c, h0, h1, h2, rfl, hf⟩ := qd_2i h hb
  have hf : (Nat.beq b j && decide (Jvm.ClassFile.Reader.signed 8 c = k)) = true := hf
  simp only [Bool.and_eq_true] at hf
  have e1 : b = j := Nat.eq_of_beq_eq_true hf.1
  have e : Jvm.ClassFile.Reader.signed 8 c = k := of_decide_eq_true hf.2
  subst e1
  subst e
  exact qd_dec ((qd_be h0).trans ((qd_be h1).trans ((qd_be (qd_s1 h2)).trans rfl)))
theorem qd_c_newarray (k : Jvm.ClassFile.ArrayType) {bs : List UInt8} {n : Nat} (h : (qd_1 188 (fun b => Nat.beq b (qd_at k))) bs n = true) {code : ByteArray} {o : Nat} (hb : code.data.toList.drop o = bs) : decode code o = .ok (Instr.newarray k, n) := by
  obtain ⟨b, h0, h1, rfl, hf⟩ := qd_1i h hb
  have e : b = qd_at k := Nat.eq_of_beq_eq_true hf
  subst e
  cases k with
  | boolean => exact qd_dec ((qd_be h0).trans ((qd_be (show (Jvm.ClassFile.Reader.u1 : Decoder Nat) code (o + 1) = .ok (4, o + 2) from h1)).trans rfl))
  | char => exact qd_dec ((qd_be h0).trans ((qd_be (show (Jvm.ClassFile.Reader.u1 : Decoder Nat) code (o + 1) = .ok (5, o + 2) from h1)).trans rfl))
  | float => exact qd_dec ((qd_be h0).trans ((qd_be (show (Jvm.ClassFile.Reader.u1 : Decoder Nat) code (o + 1) = .ok (6, o + 2) from h1)).trans rfl))
  | double => exact qd_dec ((qd_be h0).trans ((qd_be (show (Jvm.ClassFile.Reader.u1 : Decoder Nat) code (o + 1) = .ok (7, o + 2) from h1)).trans rfl))
  | byte => exact qd_dec ((qd_be h0).trans ((qd_be (show (Jvm.ClassFile.Reader.u1 : Decoder Nat) code (o + 1) = .ok (8, o + 2) from h1)).trans rfl))
  | short => exact qd_dec ((qd_be h0).trans ((qd_be (show (Jvm.ClassFile.Reader.u1 : Decoder Nat) code (o + 1) = .ok (9, o + 2) from h1)).trans rfl))
  | int => exact qd_dec ((qd_be h0).trans ((qd_be (show (Jvm.ClassFile.Reader.u1 : Decoder Nat) code (o + 1) = .ok (10, o + 2) from h1)).trans rfl))
  | long => exact qd_dec ((qd_be h0).trans ((qd_be (show (Jvm.ClassFile.Reader.u1 : Decoder Nat) code (o + 1) = .ok (11, o + 2) from h1)).trans rfl))
theorem qd_c_iconst (k : Int) {bs : List UInt8} {n : Nat} (h : qd_i k bs n = true) {code : ByteArray} {o : Nat} (hb : code.data.toList.drop o = bs) : decode code o = .ok (Instr.iconst k, n) := by
  cases bs with
  | nil => exact absurd h Bool.false_ne_true
  | cons a t =>
    have h : (decide ((a.toNat : Int) = k + 3) && (Nat.ble 2 a.toNat && (Nat.ble a.toNat 8 && Nat.beq n 1))) = true := h
    simp only [Bool.and_eq_true, decide_eq_true_eq] at h
    obtain ⟨h1, h2, h3, h4⟩ := h
    have h0 := (qd_u1 hb).1
    have h2 := Nat.le_of_ble_eq_true h2
    have h3 := Nat.le_of_ble_eq_true h3
    have h4 : n = 1 := Nat.eq_of_beq_eq_true h4
    subst h4
    revert h0 h1 h2 h3
    generalize a.toNat = m
    intro h1 h0 h2 h3
    have hm : m = 2 ∨ m = 3 ∨ m = 4 ∨ m = 5 ∨ m = 6 ∨ m = 7 ∨ m = 8 := by omega
    rcases hm with rfl | rfl | rfl | rfl | rfl | rfl | rfl
    · have hk : k = (-1) := by omega
      subst hk
      exact qd_dec ((qd_be (show (Jvm.ClassFile.Reader.u1 : Decoder Nat) code o = .ok (2, o + 1) from h0)).trans rfl)
    · have hk : k = 0 := by omega
      subst hk
      exact qd_dec ((qd_be (show (Jvm.ClassFile.Reader.u1 : Decoder Nat) code o = .ok (3, o + 1) from h0)).trans rfl)
    · have hk : k = 1 := by omega
      subst hk
      exact qd_dec ((qd_be (show (Jvm.ClassFile.Reader.u1 : Decoder Nat) code o = .ok (4, o + 1) from h0)).trans rfl)
    · have hk : k = 2 := by omega
      subst hk
      exact qd_dec ((qd_be (show (Jvm.ClassFile.Reader.u1 : Decoder Nat) code o = .ok (5, o + 1) from h0)).trans rfl)
    · have hk : k = 3 := by omega
      subst hk
      exact qd_dec ((qd_be (show (Jvm.ClassFile.Reader.u1 : Decoder Nat) code o = .ok (6, o + 1) from h0)).trans rfl)
    · have hk : k = 4 := by omega
      subst hk
      exact qd_dec ((qd_be (show (Jvm.ClassFile.Reader.u1 : Decoder Nat) code o = .ok (7, o + 1) from h0)).trans rfl)
    · have hk : k = 5 := by omega
      subst hk
      exact qd_dec ((qd_be (show (Jvm.ClassFile.Reader.u1 : Decoder Nat) code o = .ok (8, o + 1) from h0)).trans rfl)
def qd_e (i : Instr) : List UInt8 → Nat → Bool := match i with
  | .aaload => qd_0 50
  | .aastore => qd_0 83
  | .arraylength => qd_0 190
  | .athrow => qd_0 191
  | .baload => qd_0 51
  | .bastore => qd_0 84
  | .dup => qd_0 89
  | .dup2 => qd_0 92
  | .dup_x1 => qd_0 90
  | .i2b => qd_0 145
  | .i2c => qd_0 146
  | .i2l => qd_0 133
  | .i2s => qd_0 147
  | .iadd => qd_0 96
  | .iaload => qd_0 46
  | .iand => qd_0 126
  | .iastore => qd_0 79
  | .idiv => qd_0 108
  | .imul => qd_0 104
  | .ineg => qd_0 116
  | .ior => qd_0 128
  | .irem => qd_0 112
  | .ireturn => qd_0 172
  | .ishl => qd_0 120
  | .ishr => qd_0 122
  | .isub => qd_0 100
  | .iushr => qd_0 124
  | .ixor => qd_0 130
  | .l2i => qd_0 136
  | .ladd => qd_0 97
  | .laload => qd_0 47
  | .land => qd_0 127
  | .lastore => qd_0 80
  | .lcmp => qd_0 148
  | .lmul => qd_0 105
  | .lor => qd_0 129
  | .lreturn => qd_0 173
  | .lshl => qd_0 121
  | .lshr => qd_0 123
  | .lsub => qd_0 101
  | .lushr => qd_0 125
  | .lxor => qd_0 131
  | .pop => qd_0 87
  | .pop2 => qd_0 88
  | .return_ => qd_0 177
  | .aload_n k => qd_0 (42 + k.val)
  | .astore_n k => qd_0 (75 + k.val)
  | .iload_n k => qd_0 (26 + k.val)
  | .istore_n k => qd_0 (59 + k.val)
  | .lload_n k => qd_0 (30 + k.val)
  | .lstore_n k => qd_0 (63 + k.val)
  | .lconst k => qd_0 (9 + k.val)
  | .aload k => qd_1 25 (fun b => Nat.beq b k)
  | .astore k => qd_1 58 (fun b => Nat.beq b k)
  | .iload k => qd_1 21 (fun b => Nat.beq b k)
  | .istore k => qd_1 54 (fun b => Nat.beq b k)
  | .lload k => qd_1 22 (fun b => Nat.beq b k)
  | .lstore k => qd_1 55 (fun b => Nat.beq b k)
  | .ldc k => qd_1 18 (fun b => Nat.beq b k)
  | .getfield k => qd_2 180 (fun b c => Nat.beq (b * 256 + c) k)
  | .putfield k => qd_2 181 (fun b c => Nat.beq (b * 256 + c) k)
  | .getstatic k => qd_2 178 (fun b c => Nat.beq (b * 256 + c) k)
  | .invokespecial k => qd_2 183 (fun b c => Nat.beq (b * 256 + c) k)
  | .invokestatic k => qd_2 184 (fun b c => Nat.beq (b * 256 + c) k)
  | .invokevirtual k => qd_2 182 (fun b c => Nat.beq (b * 256 + c) k)
  | .new k => qd_2 187 (fun b c => Nat.beq (b * 256 + c) k)
  | .anewarray k => qd_2 189 (fun b c => Nat.beq (b * 256 + c) k)
  | .ldc_w k => qd_2 19 (fun b c => Nat.beq (b * 256 + c) k)
  | .ldc2_w k => qd_2 20 (fun b c => Nat.beq (b * 256 + c) k)
  | .bipush k => qd_1 16 (fun b => decide (Jvm.ClassFile.Reader.signed 8 b = k))
  | .goto k => qd_2 167 (fun b c => decide (Jvm.ClassFile.Reader.signed 16 (b * 256 + c) = k))
  | .sipush k => qd_2 17 (fun b c => decide (Jvm.ClassFile.Reader.signed 16 (b * 256 + c) = k))
  | .ifCond j k => qd_2 (153 + qd_cn j) (fun b c => decide (Jvm.ClassFile.Reader.signed 16 (b * 256 + c) = k))
  | .if_icmp j k => qd_2 (159 + qd_cn j) (fun b c => decide (Jvm.ClassFile.Reader.signed 16 (b * 256 + c) = k))
  | .iinc j k => qd_2 132 (fun b c => Nat.beq b j && decide (Jvm.ClassFile.Reader.signed 8 c = k))
  | .newarray k => qd_1 188 (fun b => Nat.beq b (qd_at k))
  | .iconst k => qd_i k
  | _ => fun _ _ => false
theorem qd_es (i : Instr) : ∀ (bs : List UInt8) (n : Nat), qd_e i bs n = true → ∀ (code : ByteArray) (o : Nat), code.data.toList.drop o = bs → decode code o = .ok (i, n) := by
  cases i with
  | aaload => exact fun bs n h code o hb => qd_c_aaload h hb
  | aastore => exact fun bs n h code o hb => qd_c_aastore h hb
  | arraylength => exact fun bs n h code o hb => qd_c_arraylength h hb
  | athrow => exact fun bs n h code o hb => qd_c_athrow h hb
  | baload => exact fun bs n h code o hb => qd_c_baload h hb
  | bastore => exact fun bs n h code o hb => qd_c_bastore h hb
  | dup => exact fun bs n h code o hb => qd_c_dup h hb
  | dup2 => exact fun bs n h code o hb => qd_c_dup2 h hb
  | dup_x1 => exact fun bs n h code o hb => qd_c_dup_x1 h hb
  | i2b => exact fun bs n h code o hb => qd_c_i2b h hb
  | i2c => exact fun bs n h code o hb => qd_c_i2c h hb
  | i2l => exact fun bs n h code o hb => qd_c_i2l h hb
  | i2s => exact fun bs n h code o hb => qd_c_i2s h hb
  | iadd => exact fun bs n h code o hb => qd_c_iadd h hb
  | iaload => exact fun bs n h code o hb => qd_c_iaload h hb
  | iand => exact fun bs n h code o hb => qd_c_iand h hb
  | iastore => exact fun bs n h code o hb => qd_c_iastore h hb
  | idiv => exact fun bs n h code o hb => qd_c_idiv h hb
  | imul => exact fun bs n h code o hb => qd_c_imul h hb
  | ineg => exact fun bs n h code o hb => qd_c_ineg h hb
  | ior => exact fun bs n h code o hb => qd_c_ior h hb
  | irem => exact fun bs n h code o hb => qd_c_irem h hb
  | ireturn => exact fun bs n h code o hb => qd_c_ireturn h hb
  | ishl => exact fun bs n h code o hb => qd_c_ishl h hb
  | ishr => exact fun bs n h code o hb => qd_c_ishr h hb
  | isub => exact fun bs n h code o hb => qd_c_isub h hb
  | iushr => exact fun bs n h code o hb => qd_c_iushr h hb
  | ixor => exact fun bs n h code o hb => qd_c_ixor h hb
  | l2i => exact fun bs n h code o hb => qd_c_l2i h hb
  | ladd => exact fun bs n h code o hb => qd_c_ladd h hb
  | laload => exact fun bs n h code o hb => qd_c_laload h hb
  | land => exact fun bs n h code o hb => qd_c_land h hb
  | lastore => exact fun bs n h code o hb => qd_c_lastore h hb
  | lcmp => exact fun bs n h code o hb => qd_c_lcmp h hb
  | lmul => exact fun bs n h code o hb => qd_c_lmul h hb
  | lor => exact fun bs n h code o hb => qd_c_lor h hb
  | lreturn => exact fun bs n h code o hb => qd_c_lreturn h hb
  | lshl => exact fun bs n h code o hb => qd_c_lshl h hb
  | lshr => exact fun bs n h code o hb => qd_c_lshr h hb
  | lsub => exact fun bs n h code o hb => qd_c_lsub h hb
  | lushr => exact fun bs n h code o hb => qd_c_lushr h hb
  | lxor => exact fun bs n h code o hb => qd_c_lxor h hb
  | pop => exact fun bs n h code o hb => qd_c_pop h hb
  | pop2 => exact fun bs n h code o hb => qd_c_pop2 h hb
  | return_ => exact fun bs n h code o hb => qd_c_return_ h hb
  | aload_n k => exact fun bs n h code o hb => qd_c_aload_n k h hb
  | astore_n k => exact fun bs n h code o hb => qd_c_astore_n k h hb
  | iload_n k => exact fun bs n h code o hb => qd_c_iload_n k h hb
  | istore_n k => exact fun bs n h code o hb => qd_c_istore_n k h hb
  | lload_n k => exact fun bs n h code o hb => qd_c_lload_n k h hb
  | lstore_n k => exact fun bs n h code o hb => qd_c_lstore_n k h hb
  | lconst k => exact fun bs n h code o hb => qd_c_lconst k h hb
  | aload k => exact fun bs n h code o hb => qd_c_aload k h hb
  | astore k => exact fun bs n h code o hb => qd_c_astore k h hb
  | iload k => exact fun bs n h code o hb => qd_c_iload k h hb
  | istore k => exact fun bs n h code o hb => qd_c_istore k h hb
  | lload k => exact fun bs n h code o hb => qd_c_lload k h hb
  | lstore k => exact fun bs n h code o hb => qd_c_lstore k h hb
  | ldc k => exact fun bs n h code o hb => qd_c_ldc k h hb
  | getfield k => exact fun bs n h code o hb => qd_c_getfield k h hb
  | putfield k => exact fun bs n h code o hb => qd_c_putfield k h hb
  | getstatic k => exact fun bs n h code o hb => qd_c_getstatic k h hb
  | invokespecial k => exact fun bs n h code o hb => qd_c_invokespecial k h hb
  | invokestatic k => exact fun bs n h code o hb => qd_c_invokestatic k h hb
  | invokevirtual k => exact fun bs n h code o hb => qd_c_invokevirtual k h hb
  | new k => exact fun bs n h code o hb => qd_c_new k h hb
  | anewarray k => exact fun bs n h code o hb => qd_c_anewarray k h hb
  | ldc_w k => exact fun bs n h code o hb => qd_c_ldc_w k h hb
  | ldc2_w k => exact fun bs n h code o hb => qd_c_ldc2_w k h hb
  | bipush k => exact fun bs n h code o hb => qd_c_bipush k h hb
  | goto k => exact fun bs n h code o hb => qd_c_goto k h hb
  | sipush k => exact fun bs n h code o hb => qd_c_sipush k h hb
  | ifCond j k => exact fun bs n h code o hb => qd_c_ifCond j k h hb
  | if_icmp j k => exact fun bs n h code o hb => qd_c_if_icmp j k h hb
  | iinc j k => exact fun bs n h code o hb => qd_c_iinc j k h hb
  | newarray k => exact fun bs n h code o hb => qd_c_newarray k h hb
  | iconst k => exact fun bs n h code o hb => qd_c_iconst k h hb
  | _ => exact fun bs n h => absurd h Bool.false_ne_true
def qd_isw : Instr → Bool
  | .tableswitch _ _ _ _ => true
  | .lookupswitch _ _ => true
  | _ => false
def qd_sw (code : ByteArray) (q : qm_I) : Bool := qd_isw q.2.1 && decide (decode code q.1 = .ok (q.2.1, q.2.2.1))
def qd_ck (code : ByteArray) : qm_C → List UInt8 → Nat → Bool
  | [], _, _ => true
  | q :: l, bs, pc => Nat.beq q.1 pc && ((qd_e q.2.1 bs q.2.2.1 || qd_sw code q) && qd_ck code l (bs.drop q.2.2.1) (pc + q.2.2.1))
theorem qd_cks (code : ByteArray) : ∀ (l : qm_C) (bs : List UInt8) (pc : Nat), qd_ck code l bs pc = true → code.data.toList.drop pc = bs → ∀ q ∈ l, decode code q.1 = .ok (q.2.1, q.2.2.1)
  | [], _, _, _, _ => fun q hq => absurd hq List.not_mem_nil
  | q :: l, bs, pc, h, hb => by
    have h : (Nat.beq q.1 pc && ((qd_e q.2.1 bs q.2.2.1 || qd_sw code q) && qd_ck code l (bs.drop q.2.2.1) (pc + q.2.2.1))) = true := h
    simp only [Bool.and_eq_true, Bool.or_eq_true] at h
    obtain ⟨h1, h2, h3⟩ := h
    have h1 : q.1 = pc := Nat.eq_of_beq_eq_true h1
    refine List.forall_mem_cons.mpr ⟨?_, ?_⟩
    · rcases h2 with h2 | h2
      · rw [h1]
        exact qd_es _ _ _ h2 code pc hb
      · have h4 : (qd_isw q.2.1 && decide (decode code q.1 = .ok (q.2.1, q.2.2.1))) = true := h2
        rw [Bool.and_eq_true] at h4
        exact of_decide_eq_true h4.2
    · exact qd_cks code l _ _ h3 (by rw [← hb, List.drop_drop])
theorem qd_cond {α : Type} {P : α → Prop} {b : Bool} {A B : List α} (hA : ∀ e ∈ A, P e) (hB : ∀ e ∈ B, P e) : ∀ e ∈ (bif b then A else B), P e := by
  cases b
  · exact hB
  · exact hA
end
